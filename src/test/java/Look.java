/** All that can be asked of an object without changing it, as one text. */
final class Look {
    private Look() {
    }

    static String at(Walkwatch x) {
        StringBuilder all = new StringBuilder();
        for (int c = 0; c <= 8; c++) {
            all.append("\n").append(c).append(" has ").append(x.size(c)).append(":");
            if (c == 5 || c == 8) {
                appendHeld(all, x, c);
            } else {
                appendWalked(all, x, c);
            }
        }
        for (int w = 0; w <= 7; w++) {
            appendWalk(all, x, w);
        }
        return all.append("\n").append(x.checksum()).toString();
    }

    private static void appendHeld(StringBuilder all, Walkwatch x, int c) {
        for (int thing = 0; thing <= 99; thing++) {
            if (x.has(c, thing)) {
                all.append(" ").append(thing);
                if (c == 5) {
                    all.append("=").append(x.ask(5, thing));
                }
            }
        }
        all.append(" sum ").append(x.sum(c));
    }

    private static void appendWalked(StringBuilder all, Walkwatch x, int c) {
        for (int i = 0; i < x.size(c); i++) {
            all.append(" ").append(x.thingAt(c, i));
            if (c >= 2 && c <= 4) {
                all.append("=").append(x.valueAt(c, i));
            }
        }
    }

    private static void appendWalk(StringBuilder all, Walkwatch x, int w) {
        char kind = x.kindOf(w);
        all.append("\nwalk ").append(w).append(" ").append(kind);
        if (kind != '-') {
            all.append(" ").append(x.answered(w)).append(x.isAtEnd(w) ? " at its end" : "");
        }
        if (kind == 'l') {
            all.append(" at ").append(x.place(w));
        }
    }
}
