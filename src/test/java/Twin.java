/**
 * Two objects made alike, of which one gets a call more: whether both go on alike tells what that call changed, also
 * what no question tells, as whether a walk is still of use and what it can take away.
 */
final class Twin {
    interface Setup {
        Walkwatch make();
    }

    interface Call {
        Object on(Walkwatch x);
    }

    private static final int DOINGS = 6;

    private Twin() {
    }

    /** The call throws what is due, and changes nothing. */
    static void refuses(Class<? extends RuntimeException> due, Setup setup, Call call) {
        Walkwatch asked = setup.make();
        Check.isThrown(due, () -> call.on(asked));
        leavesAll(setup, call);
    }

    /** The call, whatever it answers or throws, changes nothing. */
    static void leavesAll(Setup setup, Call call) {
        Walkwatch asked = setup.make();
        Walkwatch twin = setup.make();
        answer(asked, call);
        Check.same(Look.at(asked), Look.at(twin));
        Check.same(drained(asked), drained(twin));
        for (int w = 0; w <= 7; w++) {
            for (int doing = 0; doing < DOINGS; doing++) {
                Walkwatch after = setup.make();
                answer(after, call);
                Check.same(tour(after, w, doing), tour(setup.make(), w, doing));
            }
        }
    }

    /** What a call answers, or the name of what it throws. */
    static String answer(Walkwatch x, Call call) {
        try {
            return String.valueOf(call.on(x));
        } catch (RuntimeException e) {
            return "throws." + e.getClass().getName();
        }
    }

    private static String drained(Walkwatch x) {
        StringBuilder things = new StringBuilder();
        while (x.size(8) > 0) {
            things.append(" ").append(x.poll(8, false));
        }
        return things.toString();
    }

    private static String tour(Walkwatch x, int w, int doing) {
        String first = answer(x, y -> switch (doing) {
            case 0 -> y.step(w);
            case 1 -> y.take(w);
            case 2 -> y.back(w);
            case 3 -> y.lay(w, 50);
            case 4 -> y.change(w, 51);
            default -> y.stepChange(w, 52);
        });
        return first + " " + answer(x, y -> y.step(w)) + " " + answer(x, y -> y.take(w)) + " " + x.checksum();
    }
}
