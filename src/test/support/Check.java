/** What the tests of single sentences share: huts to begin with, and the comparing of answers and of huts. */
final class Check {
    static final int INVALID = -1;
    static final int NOT_POSSIBLE = -2;
    static final int LIMIT = -3;
    static final int NOT_FOUND = -4;

    private static final int MOST_STATES = 4;

    private static int wrong = 0;
    private static String sentence = "";

    /** Makes a hut, the same one each time: a comparison uses many, since one answers 512 calls only. */
    interface Start {
        GlacierHut hut();
    }

    interface Call {
        int on(GlacierHut x);
    }

    private interface Look {
        String at(GlacierHut x);
    }

    private Check() {
    }

    static void sentence(String words) {
        sentence = words;
    }

    static void due(String call, int got, int want) {
        if (got != want) {
            wrong++;
            System.out.println("\"" + sentence + "\": " + call + " answered " + got + ", due is " + want);
        }
    }

    static void holds(String what, boolean does) {
        if (!does) {
            wrong++;
            System.out.println("\"" + sentence + "\": " + what);
        }
    }

    static void end() {
        System.out.println(wrong == 0 ? "all answers are as due" : wrong + " answers are not as due");
        if (wrong != 0) {
            System.exit(1);
        }
    }

    /** The call returns the error, and the hut is as one without the call: its history and its future, too. */
    static void refused(String told, Start start, Call call, int error) {
        due(told, call.on(start.hut()), error);
        holds(told + " is refused, and changed something", same(start, behind(start, call)));
    }

    /** The call returns the answer and leaves everything as it was. */
    static void onlyTells(String told, Start start, Call call, int answer) {
        due(told, call.on(start.hut()), answer);
        holds(told + " only tells, and changed something", same(start, behind(start, call)));
    }

    /** The call is a change: it enters the history, and undo takes it back. */
    static void changes(String told, Start start, Call call, int answer) {
        GlacierHut x = start.hut();
        int states = x.count(12);
        due(told, call.on(x), answer);
        due("count(12) behind " + told, x.count(12), Math.min(MOST_STATES, states + 1));
        if (states < MOST_STATES) {
            due("undo() behind " + told, x.undo(), states);
            Start undone = behind(behind(start, call), GlacierHut::undo);
            holds("undo() does not take back " + told, same(start, undone));
        }
    }

    static Start behind(Start start, Call call) {
        return () -> {
            GlacierHut x = start.hut();
            call.on(x);
            return x;
        };
    }

    static boolean same(Start one, Start other) {
        for (int undone = 0; undone <= MOST_STATES; undone++) {
            if (!sameLooks(one, other)) {
                return false;
            }
            one = behind(one, GlacierHut::undo);
            other = behind(other, GlacierHut::undo);
        }
        return true;
    }

    private static boolean sameLooks(Start one, Start other) {
        return sameLook(one, other, Check::state) && sameLook(one, other, Check::storms)
            && sameLook(one, other, Check::text) && sameLook(one, other, Check::future)
            && sameLook(behind(one, GlacierHut::restore), behind(other, GlacierHut::restore), Check::state);
    }

    private static boolean sameLook(Start one, Start other, Look look) {
        return look.at(one.hut()).equals(look.at(other.hut()));
    }

    /** All that a hut tells when it is asked. */
    static String state(GlacierHut x) {
        StringBuilder all = new StringBuilder();
        for (int what = 0; what < 24; what++) {
            all.append(x.count(what)).append(' ');
        }
        for (int kind = 0; kind < 3; kind++) {
            for (int what = 0; what < 6; what++) {
                all.append(x.storeOf(kind, what)).append(' ');
            }
            for (int index = 0; index < x.storeOf(kind, 4); index++) {
                all.append(x.lotOf(kind, index, 0)).append('/').append(x.lotOf(kind, index, 1)).append(' ');
            }
            all.append(x.outOn(kind)).append(' ');
        }
        for (int party = 0; party < x.count(0); party++) {
            for (int what = 0; what < 7; what++) {
                all.append(x.partyOf(party, what)).append(' ');
            }
            all.append(x.goneOn(party)).append(' ');
        }
        return all.toString();
    }

    /** Which of the days from this one on are days of storm. */
    private static String storms(GlacierHut x) {
        StringBuilder all = new StringBuilder();
        for (int day = x.count(4); day <= 395; day++) {
            all.append(x.clear(day));
        }
        return all.toString();
    }

    private static String text(GlacierHut x) {
        StringBuilder all = new StringBuilder();
        for (int what = 0; what < 3; what++) {
            all.append(x.fault(what)).append(' ');
        }
        all.append(x.play()).append(' ').append(state(x)).append(x.clearText());
        return all.toString();
    }

    /** What comes of the pallet and of the parties. */
    private static String future(GlacierHut x) {
        x.set(3, 9);
        x.clear(x.count(4));
        StringBuilder all = new StringBuilder();
        all.append(x.fly()).append(' ').append(state(x));
        all.append(x.sleep(5)).append(' ').append(state(x));
        return all.toString();
    }

    static void put(GlacierHut x, String text) {
        x.clearText();
        for (int i = 0; i < text.length(); i++) {
            due("type, the text being " + text, x.type(text.charAt(i)), i + 1);
        }
    }

    static void sleepUntil(GlacierHut x, int day) {
        while (x.count(4) < day && x.sleep(Math.min(60, day - x.count(4))) >= 0) {
            continue;
        }
        due("count(4), the day slept to", x.count(4), day);
    }

    /** A hut with the stores of one flight, good for 300 days; another flight is not left. */
    static GlacierHut with(int soup, int bread, int gas) {
        GlacierHut x = new GlacierHut();
        int[] amounts = {soup, bread, gas};
        for (int kind = 0; kind < 3; kind++) {
            if (amounts[kind] > 0) {
                x.load(kind, amounts[kind], 300);
            }
        }
        x.fly();
        return x;
    }

    /** A hut with much of everything for all the year, and eight flights left. */
    static GlacierHut stocked() {
        GlacierHut x = new GlacierHut();
        x.set(3, 9);
        for (int kind = 0; kind < 3; kind++) {
            x.load(kind, 999, 365);
        }
        x.fly();
        return x;
    }

    /**
     * A hut on the day 4 in which all that can be is there: parties that stay (2), are booked (3),
     * gone (0) and lapsed (1), hungry and cold nights, spoilt lots, storms, a pallet, a text, a
     * snapshot, and a full history.
     */
    static GlacierHut lived() {
        GlacierHut x = new GlacierHut();
        x.set(3, 9);
        x.load(0, 13, 9);
        x.load(1, 9, 1);
        x.load(2, 1, 9);
        x.fly();
        x.book(4, 0, 1);
        x.storm(1, 2);
        x.sleep(3);
        x.load(0, 40, 20);
        x.load(1, 30, 9);
        x.load(2, 20, 90);
        x.fly();
        x.book(2, 4, 1);
        x.cancel(1);
        x.book(5, 3, 3);
        x.keep();
        x.sleep(1);
        x.book(3, 6, 2);
        x.storm(5, 1);
        x.load(2, 8, 8);
        x.load(0, 7, 3);
        put(x, "l1,4,4;n1;");
        return x;
    }

    /** A hut with 16 parties of one guest each, on the days 0 to 15, and beds for 6. */
    static GlacierHut full() {
        GlacierHut x = stocked();
        x.set(0, 6);
        for (int i = 0; i < 16; i++) {
            due("book(1, " + i + ", 1)", x.book(1, i, 1), i);
        }
        return x;
    }
}
