/** Counts and prints the answers that are not as due. */
final class Check {
    interface Call {
        void run();
    }

    private final String name;
    private int checks;
    private int wrong;

    Check(String name) {
        this.name = name;
    }

    void is(String what, Object due, Object got) {
        checks++;
        if (!due.equals(got)) {
            wrong++;
            System.out.println(name + ": " + what + " is " + got + ", due is " + due);
        }
    }

    /** The call throws exactly this exception and changes nothing that the river shows. */
    void refuses(String what, Class<? extends RuntimeException> due, BargeRiver river, Call call) {
        String before = state(river);
        is(what, due, thrownBy(call));
        is(what + ": the state afterwards", before, state(river));
    }

    /** As refuses, for the passages that store why they were refused. */
    void refusesPassage(String what, int reason, int lock, BargeRiver river, Call call) {
        String before = stateButRefusal(river);
        is(what, UnsupportedOperationException.class, thrownBy(call));
        is(what + ": the state afterwards", before, stateButRefusal(river));
        is(what + ": the reason", reason, river.refusalReason());
        is(what + ": the lock", lock, river.refusalLock());
    }

    void end() {
        System.out.println(name + ": " + checks + " checks, " + wrong + " not as due");
        if (wrong > 0) {
            System.exit(1);
        }
    }

    static Object thrownBy(Call call) {
        try {
            call.run();
        } catch (RuntimeException e) {
            return e.getClass();
        }
        return "no exception";
    }

    static String line(BargeRiver river) {
        StringBuilder text = new StringBuilder();
        int length = 0;
        while (thrownBy(charAt(river, length)).equals("no exception")) {
            text.append(river.lineAt(length));
            length++;
        }
        return text.toString();
    }

    static String written(BargeRiver river, int reach) {
        int length = river.writeReach(reach);
        String line = line(river);
        return line.length() == length ? line : line + " of length " + length;
    }

    /** The movements from a number on, as "from>to:volume". */
    static String movements(BargeRiver river, int from) {
        StringBuilder text = new StringBuilder();
        for (int i = from; i < river.movementCount(); i++) {
            text.append(i == from ? "" : " ").append(river.movementFrom(i)).append('>')
                    .append(river.movementTo(i)).append(':').append(river.movementVolume(i));
        }
        return text.toString();
    }

    static String state(BargeRiver river) {
        String refusal = " never refused";
        try {
            refusal = " refused " + river.refusalReason() + " at " + river.refusalLock();
        } catch (java.util.NoSuchElementException e) {
            // nothing was refused so far
        }
        return stateButRefusal(river) + refusal;
    }

    private static String stateButRefusal(BargeRiver river) {
        StringBuilder text = new StringBuilder();
        for (int r = 0; r < river.reachCount(); r++) {
            text.append(" reach ").append(river.areaOf(r)).append(' ').append(river.volumeOf(r))
                    .append(' ').append(river.priceIn(r));
        }
        for (int k = 0; k < river.reachCount() - 1; k++) {
            text.append(" lock ").append(river.lockfulOf(k)).append(' ').append(river.lengthOf(k))
                    .append(' ').append(river.sillOf(k)).append(' ').append(river.isFull(k))
                    .append(' ').append(river.waterThrough(k));
        }
        for (int b = 0; b < river.bargeCount(); b++) {
            text.append(" barge ").append(river.reachOf(b)).append(' ').append(river.cargoOf(b))
                    .append(' ').append(river.draughtOf(b)).append(" in");
            for (int place = 0; place < river.convoySize(b); place++) {
                text.append(' ').append(river.convoyAt(b, place));
            }
        }
        return text + " week " + river.weekCount() + " money " + river.money()
                + " totals " + river.cameTotal() + ' ' + river.seaTotal() + ' ' + river.airTotal()
                + " movements " + movements(river, 0) + " line " + line(river);
    }

    private static Call charAt(BargeRiver river, int index) {
        return () -> river.lineAt(index);
    }
}
