theorem az_end : True := trivial
