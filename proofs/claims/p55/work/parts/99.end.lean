theorem p55_end9 : True := trivial
