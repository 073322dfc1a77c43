/**
 * The edges in the sentences on changes, snapshots and texts: "Texts" and "Changes and errors" of the
 * Terms, and the promises 17 to 23.
 */
public final class GlacierHutChangesEdges {
    private static final String[] CHANGES = {
        "load", "fly", "book", "cancel", "storm", "clear", "clear a calm day", "sleep", "set", "restore", "play"};

    public static void main(String[] args) {
        constants();
        changesAreRecorded();
        changesInAFullHistory();
        hungryNightsAreTakenBack();
        partyOfTheSameNumber();
        onlyChangesAreRecorded();
        historyOfFour();
        historyIsTakenBackInOrder();
        recordsAllButTextAndSnapshot();
        errorsChangeNothing();
        errorsOfEachKindChangeNothing();
        undoEmpty();
        undoLeaves();
        keepAnswers();
        keepInPlaceOfTheOneThatWas();
        restoreNone();
        restoreStays();
        restoreLeavesTextAndHistory();
        snapshotIsNotOfTheHistory();
        typeRanges();
        typeSixty();
        clearTextAnswers();
        faultRanges();
        faultNone();
        faultForms();
        faultLetters();
        faultDigits();
        faultSeparators();
        faultLastCommand();
        faultPosition();
        faultBehindOthers();
        faultCauses();
        faultOnlyTells();
        playEmpty();
        playOneChange();
        playFault();
        playSixty();
        playStays();
        Check.end();
    }

    private static void constants() {
        Check.sentence("The constants");
        Check.due("INVALID_ARGUMENT", GlacierHut.INVALID_ARGUMENT, -1);
        Check.due("NOT_POSSIBLE", GlacierHut.NOT_POSSIBLE, -2);
        Check.due("LIMIT_REACHED", GlacierHut.LIMIT_REACHED, -3);
        Check.due("NOT_FOUND", GlacierHut.NOT_FOUND, -4);
    }

    private static int change(GlacierHut x, int which) {
        switch (which) {
            case 0: return x.load(1, 3, 3);
            case 1: return x.fly();
            case 2: return x.book(1, 9, 1);
            case 3: return x.cancel(3);
            case 4: return x.storm(4, 3);
            case 5: return x.clear(5);
            case 6: return x.clear(4);
            case 7: return x.sleep(3);
            case 8: return x.set(1, 3);
            case 9: return x.restore();
            default: return x.play();
        }
    }

    private static int answerOfChange(int which) {
        int[] answers = {3, 2, 4, 0, 3, 1, 0, 0, 2, 3, 2};
        return answers[which];
    }

    /** As lived, but two states are in the history. */
    private static GlacierHut livedWithTwoStates() {
        GlacierHut x = Check.lived();
        for (int i = 0; i < 4; i++) {
            x.undo();
        }
        Check.due("count(12)", x.count(12), 0);
        x.set(2, 3);
        Check.put(x, "b3,6,2;s5,1;l2,8,8;l0,7,3;");
        Check.due("play()", x.play(), 4);
        Check.put(x, "l1,4,4;n1;");
        return x;
    }

    private static void changesAreRecorded() {
        Check.sentence("The changes are the calls that return no error: each change records everything before it");
        for (int i = 0; i < CHANGES.length; i++) {
            int which = i;
            Check.changes(CHANGES[i], GlacierHutChangesEdges::livedWithTwoStates, x -> change(x, which),
                answerOfChange(i));
        }
    }

    private static void changesInAFullHistory() {
        Check.sentence("A history of at most 4 states is kept");
        for (int i = 0; i < CHANGES.length; i++) {
            GlacierHut x = Check.lived();
            String before = states(x);
            Check.due("count(12)", x.count(12), 4);
            Check.due(CHANGES[i], change(x, i), answerOfChange(i));
            Check.due("count(12) behind " + CHANGES[i], x.count(12), 4);
            Check.due("undo() behind " + CHANGES[i], x.undo(), 3);
            Check.holds("undo() does not take back " + CHANGES[i], states(x).equals(before));
        }
    }

    /** A hut with one state in its history, in which the second night will be hungry and cold. */
    private static GlacierHut shortOfAll() {
        GlacierHut x = new GlacierHut();
        Check.put(x, "l0,7,9;l1,9,0;l2,1,9;f;b3,0,1;s1,1;");
        Check.due("play()", x.play(), 6);
        return x;
    }

    private static void hungryNightsAreTakenBack() {
        Check.sentence("each change records everything before it");
        Check.changes("sleep(2)", GlacierHutChangesEdges::shortOfAll, x -> x.sleep(2), 2);
        GlacierHut x = shortOfAll();
        x.sleep(1);
        x.keep();
        x.sleep(1);
        int[] whats = {8, 9, 10, 11};
        int[] behind = {2, 1, 6, 2};
        int[] before = {0, 0, 3, 1};
        for (int i = 0; i < whats.length; i++) {
            Check.due("count(" + whats[i] + ")", x.count(whats[i]), behind[i]);
        }
        x.restore();
        for (int i = 0; i < whats.length; i++) {
            Check.due("count(" + whats[i] + ") behind restore()", x.count(whats[i]), before[i]);
        }
        Check.due("storeOf(1, 3), spoilt ahead of the snapshot", x.storeOf(1, 3), 6);
        x.undo();
        for (int i = 0; i < whats.length; i++) {
            Check.due("count(" + whats[i] + ") behind undo()", x.count(whats[i]), behind[i]);
        }
        x.undo();
        x.undo();
        Check.due("storeOf(1, 3) ahead of the first night", x.storeOf(1, 3), 0);
        Check.due("storeOf(1, 2) ahead of the first night", x.storeOf(1, 2), 0);
        Check.due("storeOf(1, 0) ahead of the first night", x.storeOf(1, 0), 9);
    }

    private static void partyOfTheSameNumber() {
        Check.sentence("Restores the state of the snapshot");
        GlacierHut x = Check.stocked();
        x.set(0, 6);
        x.book(2, 1, 3);
        x.keep();
        x.undo();
        Check.due("book(5, 2, 4), with the number of the one that was undone", x.book(5, 2, 4), 0);
        x.restore();
        partyDue(x, 2, 1, 3);
        Check.due("most(1, 1), besides 2 guests", x.most(1, 1), 4);
        x.undo();
        partyDue(x, 5, 2, 4);
        Check.due("most(2, 1), besides 5 guests", x.most(2, 1), 1);
        x.restore();
        partyDue(x, 2, 1, 3);
        Check.due("book(4, 1, 1)", x.book(4, 1, 1), 1);
    }

    private static void partyDue(GlacierHut x, int size, int day, int nights) {
        Check.due("partyOf(0, 0)", x.partyOf(0, 0), size);
        Check.due("partyOf(0, 1)", x.partyOf(0, 1), day);
        Check.due("partyOf(0, 2)", x.partyOf(0, 2), nights);
        Check.due("goneOn(0)", x.goneOn(0), day + nights);
    }

    /** The state but for the number of states in the history. */
    private static String states(GlacierHut x) {
        String[] parts = Check.state(x).split(" ");
        parts[12] = "";
        return String.join(" ", parts);
    }

    private static void onlyChangesAreRecorded() {
        Check.sentence("The changes are load, fly, book, cancel, storm, clear, sleep, set, restore and play");
        GlacierHut x = livedWithTwoStates();
        x.keep();
        x.type(65);
        x.fault(0);
        x.clearText();
        x.lotOf(0, 0, 0);
        x.storeOf(0, 0);
        x.partyOf(0, 0);
        x.count(0);
        x.goneOn(2);
        x.outOn(0);
        x.most(20, 1);
        Check.due("count(12), none of them was a change", x.count(12), 2);
        x.undo();
        Check.due("count(12), undo is no change", x.count(12), 1);
    }

    private static void historyOfFour() {
        Check.sentence("if there are 5 states then, the oldest one is dropped");
        for (int changes = 0; changes <= 10; changes++) {
            GlacierHut x = new GlacierHut();
            for (int i = 1; i <= changes; i++) {
                x.set(0, i);
            }
            int kept = Math.min(4, changes);
            Check.due("count(12) behind " + changes + " changes", x.count(12), kept);
            for (int i = 1; i <= kept; i++) {
                Check.due("undo() behind " + changes + " changes", x.undo(), kept - i);
                int beds = changes - i == 0 ? 12 : changes - i;
                Check.due("count(20) behind " + i + " of " + changes, x.count(20), beds);
            }
            Check.due("undo() of none", x.undo(), Check.NOT_POSSIBLE);
        }
    }

    private static void historyIsTakenBackInOrder() {
        Check.sentence("Restores the latest state of the history, which is removed from it");
        GlacierHut x = new GlacierHut();
        for (int i = 1; i <= 5; i++) {
            x.set(0, i);
        }
        x.undo();
        x.undo();
        Check.due("count(20)", x.count(20), 3);
        x.set(0, 20);
        Check.due("count(12)", x.count(12), 3);
        x.set(0, 21);
        Check.due("count(12)", x.count(12), 4);
        x.set(0, 22);
        int[] beds = {21, 20, 3, 2};
        for (int i = 0; i < 4; i++) {
            Check.due("undo()", x.undo(), 3 - i);
            Check.due("count(20)", x.count(20), beds[i]);
        }
        Check.due("undo()", x.undo(), Check.NOT_POSSIBLE);
    }

    private static void recordsAllButTextAndSnapshot() {
        Check.sentence("each change records everything before it but the text and the snapshot");
        GlacierHut x = new GlacierHut();
        x.set(0, 5);
        x.type(65);
        x.type(66);
        x.sleep(2);
        x.keep();
        x.set(0, 6);
        x.clearText();
        Check.due("undo()", x.undo(), 2);
        Check.due("undo()", x.undo(), 1);
        Check.due("count(13), the text is as it is", x.count(13), 0);
        Check.due("count(14), there is a snapshot still", x.count(14), 1);
        Check.due("count(4)", x.count(4), 0);
        x.type(67);
        Check.due("undo()", x.undo(), 0);
        Check.due("count(13)", x.count(13), 1);
        Check.due("count(14)", x.count(14), 1);
        Check.due("restore()", x.restore(), 2);
        Check.due("count(20)", x.count(20), 5);
    }

    private static void errorsChangeNothing() {
        Check.sentence("A call that returns an error changes nothing");
        Check.refused("load(3, 1, 1)", Check::lived, x -> x.load(3, 1, 1), Check.INVALID);
        Check.refused("book(0, 9, 1)", Check::lived, x -> x.book(0, 9, 1), Check.INVALID);
        Check.refused("book(6, 3, 1), a day before", Check::lived, x -> x.book(6, 3, 1), Check.INVALID);
        Check.refused("cancel(4)", Check::lived, x -> x.cancel(4), Check.INVALID);
        Check.refused("storm(3, 1), a day before", Check::lived, x -> x.storm(3, 1), Check.INVALID);
        Check.refused("clear(3), a day before", Check::lived, x -> x.clear(3), Check.INVALID);
        Check.refused("sleep(61)", Check::lived, x -> x.sleep(61), Check.INVALID);
        Check.refused("set(0, 41)", Check::lived, x -> x.set(0, 41), Check.INVALID);
        Check.refused("set(4, 1)", Check::lived, x -> x.set(4, 1), Check.INVALID);
        Check.refused("type(127)", Check::lived, x -> x.type(127), Check.INVALID);
        Check.refused("fault(3)", Check::lived, x -> x.fault(3), Check.INVALID);
        Check.refused("most(3, 1), a day before", Check::lived, x -> x.most(3, 1), Check.INVALID);
    }

    private static void errorsOfEachKindChangeNothing() {
        Check.sentence("A call that returns an error changes nothing");
        Check.refused("fly() in a storm", Check.behind(Check::lived, x -> x.storm(4, 1)), GlacierHut::fly,
            Check.NOT_POSSIBLE);
        Check.refused("book(6, 5, 9)", Check::lived, x -> x.book(6, 5, 9), Check.NOT_POSSIBLE);
        Check.refused("cancel(2)", Check::lived, x -> x.cancel(2), Check.NOT_POSSIBLE);
        Check.refused("storm(10, 30)", Check.behind(Check::lived, x -> x.storm(50, 30)), x -> x.storm(10, 30),
            Check.LIMIT);
        Check.refused("lotOf(1, 1, 0)", Check::lived, x -> x.lotOf(1, 1, 0), Check.NOT_FOUND);
        Check.refused("play(), a fault behind other commands", Check.behind(Check::lived, x -> {
            Check.put(x, "n1;l1,4,4;f;x0;");
            return 0;
        }), GlacierHut::play, Check.NOT_POSSIBLE);
        Check.refused("fault(2), a form", Check.behind(Check::lived, x -> x.type(65)), x -> x.fault(2),
            Check.NOT_FOUND);
        Check.refused("undo() of none", Check.behind(Check::lived, x -> x.undo() + x.undo() + x.undo() + x.undo()),
            GlacierHut::undo, Check.NOT_POSSIBLE);
        Check.refused("restore() of none", Check::stocked, GlacierHut::restore, Check.NOT_POSSIBLE);
    }

    private static void undoEmpty() {
        Check.sentence("undo: NOT_POSSIBLE if it is empty");
        Check.refused("undo() of a new hut", GlacierHut::new, GlacierHut::undo, Check.NOT_POSSIBLE);
        Check.refused("undo() behind an error", Check.behind(GlacierHut::new, x -> x.load(0, 0, 0)),
            GlacierHut::undo, Check.NOT_POSSIBLE);
        Check.refused("undo() behind keep()", Check.behind(GlacierHut::new, GlacierHut::keep), GlacierHut::undo,
            Check.NOT_POSSIBLE);
        Check.refused("undo() behind type(65)", Check.behind(GlacierHut::new, x -> x.type(65)), GlacierHut::undo,
            Check.NOT_POSSIBLE);
    }

    private static void undoLeaves() {
        Check.sentence("Returns the number of states that are left in the history");
        GlacierHut x = Check.lived();
        for (int left = 3; left >= 0; left--) {
            Check.due("undo()", x.undo(), left);
            Check.due("count(12)", x.count(12), left);
        }
        Check.due("undo()", x.undo(), Check.NOT_POSSIBLE);
        Check.due("count(12)", x.count(12), 0);
        Check.due("count(4), ahead of the last four changes", x.count(4), 4);
        Check.due("count(0)", x.count(0), 3);
    }

    private static void keepAnswers() {
        Check.sentence("Takes a snapshot of the state. Returns the day");
        Check.due("keep() on the day 0", new GlacierHut().keep(), 0);
        GlacierHut x = new GlacierHut();
        Check.due("count(14)", x.count(14), 0);
        Check.sleepUntil(x, 365);
        Check.due("keep() on the day 365", x.keep(), 365);
        Check.due("count(14)", x.count(14), 1);
        int states = x.count(12);
        x.keep();
        Check.due("count(12), no change", x.count(12), states);
    }

    private static void keepInPlaceOfTheOneThatWas() {
        Check.sentence("in place of the one that was");
        GlacierHut x = Check.stocked();
        x.keep();
        x.sleep(2);
        Check.due("keep()", x.keep(), 2);
        x.sleep(3);
        Check.due("restore()", x.restore(), 2);
        Check.due("restore()", x.restore(), 2);
    }

    private static void restoreNone() {
        Check.sentence("restore: NOT_POSSIBLE if there is none");
        Check.refused("restore()", Check::stocked, GlacierHut::restore, Check.NOT_POSSIBLE);
        Check.refused("restore() of a new hut", GlacierHut::new, GlacierHut::restore, Check.NOT_POSSIBLE);
        Check.changes("restore() of the hut as it is", Check.behind(GlacierHut::new, GlacierHut::keep),
            GlacierHut::restore, 0);
    }

    private static void restoreStays() {
        Check.sentence("Restores the state of the snapshot, which stays");
        GlacierHut kept = Check.lived();
        kept.keep();
        String before = states(kept);
        for (int i = 0; i < CHANGES.length; i++) {
            GlacierHut x = Check.lived();
            x.keep();
            change(x, i);
            Check.due("restore() behind " + CHANGES[i], x.restore(), 4);
            Check.holds("restore() is not as it was behind " + CHANGES[i], states(x).equals(before));
            x.sleep(5);
            x.load(0, 1, 1);
            Check.due("restore() again", x.restore(), 4);
            Check.holds("restore() again is not as it was behind " + CHANGES[i], states(x).equals(before));
        }
    }

    private static void restoreLeavesTextAndHistory() {
        Check.sentence("each change records everything before it but the text and the snapshot");
        GlacierHut x = new GlacierHut();
        x.set(0, 5);
        x.type(65);
        x.keep();
        x.set(0, 6);
        x.set(0, 7);
        x.type(66);
        Check.due("restore()", x.restore(), 0);
        Check.due("count(20)", x.count(20), 5);
        Check.due("count(13), the text stays", x.count(13), 2);
        Check.due("count(12), the history goes on", x.count(12), 4);
        Check.due("undo()", x.undo(), 3);
        Check.due("count(20)", x.count(20), 7);
        Check.due("count(14)", x.count(14), 1);
    }

    private static void snapshotIsNotOfTheHistory() {
        Check.sentence("Restores the latest state of the history");
        GlacierHut x = new GlacierHut();
        x.sleep(1);
        x.keep();
        x.undo();
        Check.due("count(14), undo leaves the snapshot", x.count(14), 1);
        Check.due("restore(), a day that was undone", x.restore(), 1);
        Check.due("count(12)", x.count(12), 1);
        Check.due("undo()", x.undo(), 0);
        Check.due("count(4)", x.count(4), 0);
    }

    private static void typeRanges() {
        Check.sentence("character: 32 to 126");
        Check.refused("type(31)", Check::lived, x -> x.type(31), Check.INVALID);
        Check.refused("type(127)", Check::lived, x -> x.type(127), Check.INVALID);
        Check.refused("type(0)", Check::lived, x -> x.type(0), Check.INVALID);
        Check.refused("type(-1)", Check::lived, x -> x.type(-1), Check.INVALID);
        Check.refused("type(65536 + 110)", Check::lived, x -> x.type(65536 + 110), Check.INVALID);
        Check.refused("type(the least int)", Check::lived, x -> x.type(Integer.MIN_VALUE), Check.INVALID);
        Check.due("type(32)", new GlacierHut().type(32), 1);
        Check.due("type(126)", new GlacierHut().type(126), 1);
        Check.due("type(126), the eleventh", Check.lived().type(126), 11);
    }

    private static GlacierHut withText(int length) {
        GlacierHut x = new GlacierHut();
        for (int i = 1; i <= length; i++) {
            Check.due("type(48)", x.type(48), i);
        }
        return x;
    }

    private static void typeSixty() {
        Check.sentence("LIMIT_REACHED if it has 60 characters");
        Check.due("type(48), the 60th", withText(59).type(48), 60);
        Check.refused("type(48), the 61st", () -> withText(60), x -> x.type(48), Check.LIMIT);
        Check.refused("type(127), the 61st", () -> withText(60), x -> x.type(127), Check.INVALID);
        Check.refused("type(31), the 61st", () -> withText(60), x -> x.type(31), Check.INVALID);
        Check.due("count(13)", withText(60).count(13), 60);
    }

    private static void clearTextAnswers() {
        Check.sentence("Empties the text. Returns the length it had");
        Check.due("clearText() of none", new GlacierHut().clearText(), 0);
        Check.due("clearText() of one", withText(1).clearText(), 1);
        GlacierHut x = withText(60);
        Check.due("clearText() of 60", x.clearText(), 60);
        Check.due("count(13)", x.count(13), 0);
        Check.due("clearText() again", x.clearText(), 0);
        Check.due("fault(0), nothing of the old text", x.fault(0), Check.NOT_FOUND);
        Check.due("type(110)", x.type('n'), 1);
        Check.due("fault(1), nothing of the old text", x.fault(1), 1);
        Check.due("count(12)", x.count(12), 0);
        x = new GlacierHut();
        Check.put(x, "n7;");
        x.clearText();
        x.type('n');
        Check.due("fault(1), nothing of the old text behind it", x.fault(1), 1);
        x.type('5');
        x.type(';');
        x.play();
        Check.due("count(4)", x.count(4), 5);
    }

    private static void faultRanges() {
        Check.sentence("fault: what: 0: its position; 1: its reason; 2: its cause");
        GlacierHut x = Check.lived();
        Check.put(x, "n1;x0;");
        Check.due("fault(-1)", x.fault(-1), Check.INVALID);
        Check.due("fault(0)", x.fault(0), 3);
        Check.due("fault(1)", x.fault(1), 2);
        Check.due("fault(2)", x.fault(2), Check.NOT_POSSIBLE);
        Check.due("fault(3)", x.fault(3), Check.INVALID);
        Check.due("fault(the least int)", x.fault(Integer.MIN_VALUE), Check.INVALID);
        Check.due("fault(the greatest int)", x.fault(Integer.MAX_VALUE), Check.INVALID);
        Check.sentence("INVALID_ARGUMENT rather than NOT_FOUND");
        Check.due("fault(3), no text", new GlacierHut().fault(3), Check.INVALID);
        Check.due("fault(-1), no text", new GlacierHut().fault(-1), Check.INVALID);
    }

    private static void faultDue(GlacierHut x, String text, int position, int reason, int cause) {
        Check.put(x, text);
        Check.due("fault(0) of " + text, x.fault(0), position);
        Check.due("fault(1) of " + text, x.fault(1), reason);
        Check.due("fault(2) of " + text, x.fault(2), cause);
        if (position != Check.NOT_FOUND) {
            Check.due("play() of " + text, x.play(), Check.NOT_POSSIBLE);
        }
    }

    private static void badForm(String text, int position) {
        faultDue(new GlacierHut(), text, position, 1, Check.NOT_FOUND);
    }

    private static void noFault(GlacierHut x, String text) {
        faultDue(x, text, Check.NOT_FOUND, Check.NOT_FOUND, Check.NOT_FOUND);
    }

    private static void faultNone() {
        Check.sentence("NOT_FOUND if the text has no fault (also if it is empty), for 2 if its reason is 1");
        noFault(new GlacierHut(), "");
        noFault(new GlacierHut(), "n1;");
        noFault(new GlacierHut(), "l0,1,0;f;s0,1;n1;");
        badForm("n1", 0);
    }

    private static void faultForms() {
        Check.sentence("commands, each followed by \";\"");
        GlacierHut x = Check.stocked();
        noFault(x, "l2,9,9;f;b2,1,1;x0;s5,2;n3;");
        Check.put(x, "l2,9,9;f;b2,1,1;x0;s5,2;n3;");
        Check.due("play()", x.play(), 6);
        Check.due("storeOf(2, 4), a lot on the pallet and a flight", x.storeOf(2, 4), 2);
        Check.due("count(6)", x.count(6), 2);
        Check.due("partyOf(0, 3), a booking, and it cancels", x.partyOf(0, 3), 3);
        Check.due("count(4), nights", x.count(4), 3);
        Check.due("clear(5), storms", x.clear(5) + x.clear(6) + x.clear(7), 2);
    }

    private static void faultLetters() {
        Check.sentence("\"l\", \"f\", \"b\", \"x\", \"s\", or \"n\"");
        String arguments = "0,1,1;";
        for (char letter = 32; letter <= 126; letter++) {
            boolean three = letter == 'l' || letter == 'b';
            GlacierHut x = Check.stocked();
            Check.put(x, letter + arguments);
            Check.due("fault(1) of " + letter + arguments, x.fault(1),
                letter == 'l' ? Check.NOT_FOUND : three ? 2 : 1);
            Check.put(x, letter + ";");
            Check.due("fault(1) of " + letter + ";", x.fault(1), letter == 'f' ? 2 : 1);
            Check.put(x, letter + "1;");
            Check.due("fault(1) of " + letter + "1;", x.fault(1),
                letter == 'n' ? Check.NOT_FOUND : letter == 'x' ? 2 : 1);
            Check.put(x, letter + "1,1;");
            Check.due("fault(1) of " + letter + "1,1;", x.fault(1), letter == 's' ? Check.NOT_FOUND : 1);
        }
    }

    private static void faultDigits() {
        Check.sentence("numbers of one to three digits, 0 ahead allowed");
        noFault(new GlacierHut(), "n1;");
        noFault(new GlacierHut(), "n01;");
        noFault(new GlacierHut(), "n001;");
        badForm("n0001;", 0);
        badForm("n;", 0);
        badForm("n1000;", 0);
        noFault(new GlacierHut(), "l000,001,000;");
        badForm("l0000,1,0;", 0);
        badForm("l0,0001,0;", 0);
        badForm("l0,1,0000;", 0);
        noFault(new GlacierHut(), "l2,999,365;");
        faultDue(new GlacierHut(), "l2,999,366;", 0, 2, Check.INVALID);
        faultDue(new GlacierHut(), "l2,1,999;", 0, 2, Check.INVALID);
        faultDue(new GlacierHut(), "n000;", 0, 2, Check.INVALID);
        faultDue(new GlacierHut(), "n999;", 0, 2, Check.INVALID);
        GlacierHut x = new GlacierHut();
        Check.put(x, "n019;n08;n9;");
        x.play();
        Check.due("count(4), 0 ahead is no other number", x.count(4), 36);
    }

    private static void faultSeparators() {
        Check.sentence("its reason is 1 if it is not of this form, its \";\" included");
        String[] bad = {"l1;", "l1,1;", "l1,1,1,1;", "l,1,1;", "l1,,1;", "l1,1,;", "l1;1;1;", "l 1,1,1;", "l1, 1,1;",
            "l1,1,1 ;", "l1.1.1;", "l-1,1,1;", "l1,+1,1;", "f0;", "f ;", "f,;", "ff;", "b1,1;", "b1,1,1,1;", "x1,1;",
            "x;", "s1;", "s1,1,1;", "s,;", "n1,1;", "n1,;", "n,1;", "n1:;", "n1/;", "n:;", "n/;", "nA;", ";", " ", ",",
            "1;", "l", "l1", "l1,", "l1,1", "l1,1,", "l1,1,1", "l1,1,1,"};
        for (String text : bad) {
            badForm(text, 0);
            badForm("n1;" + text, 3);
        }
    }

    private static void faultLastCommand() {
        Check.sentence("each followed by \";\"");
        badForm("n1;n1", 3);
        badForm("n1;n1;n", 6);
        badForm("n1;;", 3);
        badForm("n1; ", 3);
        badForm("n1;n1;n1;n1;n1;n1;n1;n1;n1;n1;n1;n1;n1;n1;n1;n1;n1;n1;n1;n01", 57);
        badForm("n1;n1;n1;n1;n1;n1;n1;n1;n1;n1;n1;n1;n1;n1;n1;n1;n1;n1;n01;n1", 58);
        badForm("n1;n1;n1;n1;n1;n1;n1;n1;n1;n1;n1;n1;n1;n1;n1;n1;n1;n01;n01;f", 59);
        noFault(new GlacierHut(), "n1;n1;n1;n1;n1;n1;n1;n1;n1;n1;n1;n1;n1;n1;n1;n1;n1;n1;n1;n1;");
    }

    private static void faultPosition() {
        Check.sentence("the position, from 0, of the first character of the first command that is not possible");
        faultDue(new GlacierHut(), "n0;n0;", 0, 2, Check.INVALID);
        faultDue(new GlacierHut(), "n1;n0;n0;", 3, 2, Check.INVALID);
        faultDue(new GlacierHut(), "n001;l0,1,1;f;f;", 14, 2, Check.NOT_POSSIBLE);
        faultDue(new GlacierHut(), "n0;q", 0, 2, Check.INVALID);
        badForm("n1;q;n0;", 3);
        faultDue(new GlacierHut(), "n1;n1;n1;n1;n1;n1;n1;n1;n1;n1;n1;n1;n1;n1;n1;n1;n1;n1;n01;f;", 58, 2,
            Check.NOT_POSSIBLE);
    }

    private static void faultBehindOthers() {
        Check.sentence("when those ahead of it are done");
        noFault(new GlacierHut(), "l0,1,1;f;");
        faultDue(new GlacierHut(), "f;l0,1,1;", 0, 2, Check.NOT_POSSIBLE);
        faultDue(new GlacierHut(), "s0,1;l0,1,1;f;", 12, 2, Check.NOT_POSSIBLE);
        noFault(new GlacierHut(), "s0,1;l0,1,1;n1;f;");
        faultDue(new GlacierHut(), "n2;s1,1;", 3, 2, Check.INVALID);
        noFault(Check.stocked(), "b1,2,1;x0;");
        faultDue(Check.stocked(), "b1,2,1;x0;x0;", 10, 2, Check.NOT_POSSIBLE);
        faultDue(Check.stocked(), "b1,2,1;x1;", 7, 2, Check.INVALID);
        faultDue(Check.stocked(), "b1,0,1;n1;x0;", 10, 2, Check.NOT_POSSIBLE);
        noFault(Check.stocked(), "b6,0,1;b6,0,1;n1;b6,1,1;");
        faultDue(Check.stocked(), "b6,0,1;b6,0,1;b1,0,1;", 14, 2, Check.NOT_POSSIBLE);
    }

    private static void faultCauses() {
        Check.sentence("its cause is then the error code that the call returns for it");
        faultDue(new GlacierHut(), "l3,1,1;", 0, 2, Check.INVALID);
        faultDue(new GlacierHut(), "l0,0,1;", 0, 2, Check.INVALID);
        faultDue(Check.lived(), "l0,1,1;l0,1,1;l0,1,1;l0,1,1;l0,1,1;", 28, 2, Check.LIMIT);
        faultDue(new GlacierHut(), "f;", 0, 2, Check.NOT_POSSIBLE);
        GlacierHut x = Check.stocked();
        for (int flights = 0; flights < 3; flights++) {
            for (int i = 0; i < (flights == 2 ? 5 : 6); i++) {
                x.load(1, 1, 300);
            }
            x.fly();
        }
        faultDue(x, "l0,1,1;f;", 7, 2, Check.LIMIT);
        faultDue(new GlacierHut(), "b0,0,1;", 0, 2, Check.INVALID);
        faultDue(new GlacierHut(), "b1,0,1;", 0, 2, Check.NOT_POSSIBLE);
        faultDue(Check.full(), "b1,20,1;", 0, 2, Check.LIMIT);
        faultDue(Check.full(), "x16;", 0, 2, Check.INVALID);
        faultDue(Check.lived(), "x2;", 0, 2, Check.NOT_POSSIBLE);
        faultDue(new GlacierHut(), "s366,1;", 0, 2, Check.INVALID);
        faultDue(new GlacierHut(), "s0,31;", 0, 2, Check.INVALID);
        faultDue(new GlacierHut(), "s0,30;s30,10;s40,1;", 13, 2, Check.LIMIT);
        faultDue(new GlacierHut(), "n61;", 0, 2, Check.INVALID);
        faultDue(new GlacierHut(), "n60;n60;n60;n60;n60;n60;n6;", 24, 2, Check.LIMIT);
        noFault(new GlacierHut(), "n60;n60;n60;n60;n60;n60;n5;");
    }

    private static void faultOnlyTells() {
        Check.sentence("Tells about the fault of the text");
        for (int what = 0; what <= 2; what++) {
            int asked = what;
            Check.onlyTells("fault(" + what + "), no fault", Check::lived, x -> x.fault(asked), Check.NOT_FOUND);
        }
        Check.Start faulty = Check.behind(Check::lived, x -> {
            Check.put(x, "f;n1;s9,9;x3;b9,9,9;");
            return 0;
        });
        Check.onlyTells("fault(0)", faulty, x -> x.fault(0), 13);
        Check.onlyTells("fault(1)", faulty, x -> x.fault(1), 2);
        Check.onlyTells("fault(2)", faulty, x -> x.fault(2), Check.INVALID);
    }

    private static void playEmpty() {
        Check.sentence("They are one change, also if there are none");
        Check.changes("play() of no text", GlacierHut::new, GlacierHut::play, 0);
        Check.changes("play() of no text behind a change", Check.behind(GlacierHut::new, x -> x.set(0, 5)),
            GlacierHut::play, 0);
        GlacierHut x = new GlacierHut();
        for (int i = 1; i <= 6; i++) {
            Check.due("play()", x.play(), 0);
            Check.due("count(12)", x.count(12), Math.min(4, i));
        }
    }

    private static void playOneChange() {
        Check.sentence("Does all commands of the text. They are one change");
        Check.Start typed = Check.behind(Check::stocked, x -> {
            x.undo();
            Check.put(x, "l1,5,9;f;b2,1,2;b1,2,1;x1;s3,1;n2;");
            return 0;
        });
        Check.changes("play()", typed, GlacierHut::play, 7);
        GlacierHut x = typed.hut();
        Check.due("count(12)", x.count(12), 3);
        x.play();
        Check.due("count(12)", x.count(12), 4);
        Check.due("count(4)", x.count(4), 2);
        Check.due("count(2)", x.count(2), 1);
    }

    private static void playFault() {
        Check.sentence("play: NOT_POSSIBLE if it has a fault");
        String[] texts = {"n", "n1;n1", "n1;f;", "l1,1,1;l1,1,1;n0;", "s20,5;x9;"};
        for (String text : texts) {
            Check.refused("play() of " + text, Check.behind(Check::stocked, x -> {
                Check.put(x, text);
                return 0;
            }), GlacierHut::play, Check.NOT_POSSIBLE);
        }
    }

    private static void playSixty() {
        Check.sentence("There is a text of at most 60 characters");
        GlacierHut x = new GlacierHut();
        Check.put(x, "n1;n1;n1;n1;n1;n1;n1;n1;n1;n1;n1;n1;n1;n1;n1;n1;n1;n1;n1;n1;");
        Check.due("count(13)", x.count(13), 60);
        Check.due("play()", x.play(), 20);
        Check.due("count(4)", x.count(4), 20);
        Check.due("count(12)", x.count(12), 1);
    }

    private static void playStays() {
        Check.sentence("Does all commands of the text, which stays");
        GlacierHut x = new GlacierHut();
        Check.put(x, "n9;");
        Check.due("play()", x.play(), 1);
        Check.due("count(13)", x.count(13), 3);
        Check.due("play()", x.play(), 1);
        Check.due("count(4)", x.count(4), 18);
        x.undo();
        Check.due("count(13), undo leaves it", x.count(13), 3);
        Check.due("play()", x.play(), 1);
        Check.due("clearText()", x.clearText(), 3);
    }
}
