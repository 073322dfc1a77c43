/** Each promise by hand: ordinary inputs, the edges that the document names, wrong inputs. */
public final class GlacierHutPromises {
    private static final int INVALID = -1;
    private static final int NOT_POSSIBLE = -2;
    private static final int LIMIT = -3;
    private static final int NOT_FOUND = -4;

    private static int wrong = 0;
    private static String part = "";

    private static void due(String call, int got, int want) {
        if (got != want) {
            wrong++;
            System.out.println(part + ": " + call + " answered " + got + ", due is " + want);
        }
    }

    public static void main(String[] args) {
        promise1NewObject();
        promise2Load();
        promise3Fly();
        promise3LotsInOrder();
        promise4Book();
        promise4BookNotTaken();
        promise4Limit();
        promise5Cancel();
        promise6Storm();
        promise7Clear();
        promise8Sleep();
        promise8Supper();
        promise8Bread();
        promise8Gas();
        promise8ComingAndGoing();
        promise8Beds();
        promise8Spoiling();
        promise9Set();
        promise10LotOf();
        promise11StoreOf();
        promise12PartyOf();
        promise13Count();
        promise14GoneOn();
        promise15OutOn();
        promise16Most();
        promise17And18Snapshot();
        promise19Undo();
        promise19WhatIsRecorded();
        promise19All();
        promise20And21Text();
        promise22Forms();
        promise22Fault();
        promise23Play();
        farArguments();
        System.out.println(wrong == 0 ? "all answers are as due" : wrong + " answers are not as due");
        if (wrong != 0) {
            System.exit(1);
        }
    }

    private static void put(GlacierHut x, String text) {
        x.clearText();
        for (int i = 0; i < text.length(); i++) {
            due("type in " + text, x.type(text.charAt(i)), i + 1);
        }
    }

    private static void faultDue(GlacierHut x, String text, int position, int reason, int cause) {
        put(x, text);
        due("fault(0) of " + text, x.fault(0), position);
        due("fault(1) of " + text, x.fault(1), reason);
        due("fault(2) of " + text, x.fault(2), cause);
        int history = x.count(12);
        due("play of " + text, x.play(), position == NOT_FOUND ? x.play() : NOT_POSSIBLE);
        if (position != NOT_FOUND) {
            due("count(12) behind the refused " + text, x.count(12), history);
        }
    }

    /** A hut with much of everything, and all flights but one left. */
    private static GlacierHut stocked() {
        GlacierHut x = new GlacierHut();
        x.set(3, 9);
        x.load(0, 999, 365);
        x.load(1, 999, 365);
        x.load(2, 999, 365);
        x.fly();
        return x;
    }

    private static GlacierHut with(int soup, int bread, int gas) {
        GlacierHut x = new GlacierHut();
        if (soup > 0) {
            x.load(0, soup, 300);
        }
        if (bread > 0) {
            x.load(1, bread, 300);
        }
        if (gas > 0) {
            x.load(2, gas, 300);
        }
        x.fly();
        return x;
    }

    private static void promise1NewObject() {
        part = "promise 1";
        GlacierHut x = new GlacierHut();
        for (int what = 0; what <= 14; what++) {
            due("count(" + what + ")", x.count(what), 0);
        }
        int[] first = {12, 2, 3, 1};
        for (int i = 0; i < 4; i++) {
            due("count(" + (20 + i) + ")", x.count(20 + i), first[i]);
        }
        for (int kind = 0; kind < 3; kind++) {
            for (int what = 0; what <= 5; what++) {
                due("storeOf", x.storeOf(kind, what), 0);
            }
        }
        due("partyOf(0, 0)", x.partyOf(0, 0), INVALID);
        due("INVALID_ARGUMENT", GlacierHut.INVALID_ARGUMENT, -1);
        due("NOT_POSSIBLE", GlacierHut.NOT_POSSIBLE, -2);
        due("LIMIT_REACHED", GlacierHut.LIMIT_REACHED, -3);
        due("NOT_FOUND", GlacierHut.NOT_FOUND, -4);
    }

    private static void promise2Load() {
        part = "promise 2";
        GlacierHut x = new GlacierHut();
        due("load(-1, 1, 0)", x.load(-1, 1, 0), INVALID);
        due("load(3, 1, 0)", x.load(3, 1, 0), INVALID);
        due("load(0, 0, 0)", x.load(0, 0, 0), INVALID);
        due("load(0, 1000, 0)", x.load(0, 1000, 0), INVALID);
        due("load(0, 1, -1)", x.load(0, 1, -1), INVALID);
        due("load(0, 1, 366)", x.load(0, 1, 366), INVALID);
        due("count(7)", x.count(7), 0);
        due("count(12)", x.count(12), 0);
        due("load(0, 1, 0)", x.load(0, 1, 0), 1);
        due("load(2, 999, 365)", x.load(2, 999, 365), 2);
        for (int i = 3; i <= 6; i++) {
            due("load(1, 7, 7)", x.load(1, 7, 7), i);
        }
        due("load, the seventh", x.load(1, 7, 7), LIMIT);
        due("load(3, 7, 7), the seventh", x.load(3, 7, 7), INVALID);
        due("count(7)", x.count(7), 6);
        due("storeOf(1, 5)", x.storeOf(1, 5), 28);
        due("count(12)", x.count(12), 4);
    }

    private static void promise3Fly() {
        part = "promise 3";
        GlacierHut x = new GlacierHut();
        due("fly with nothing", x.fly(), NOT_POSSIBLE);
        x.load(0, 5, 5);
        x.storm(0, 1);
        due("fly in a storm", x.fly(), NOT_POSSIBLE);
        x.clear(0);
        x.set(3, 0);
        due("fly with no flights", x.fly(), NOT_POSSIBLE);
        x.set(3, 1);
        due("fly", x.fly(), 1);
        due("count(6)", x.count(6), 1);
        due("count(7)", x.count(7), 0);
        x.load(0, 5, 5);
        due("fly, the second", x.fly(), NOT_POSSIBLE);
        x.set(3, 9);
        for (int i = 0; i < 5; i++) {
            x.load(0, 5, 5);
        }
        due("fly", x.fly(), 6);
        for (int i = 0; i < 6; i++) {
            x.load(1, 5, 5);
        }
        due("fly", x.fly(), 6);
        for (int i = 0; i < 6; i++) {
            x.load(2, 5, 5);
        }
        due("fly", x.fly(), 6);
        x.load(2, 1, 1);
        due("fly, 20 lots", x.fly(), 1);
        due("storeOf(2, 4)", x.storeOf(2, 4), 7);
        x.load(2, 1, 1);
        due("fly, 21 lots", x.fly(), LIMIT);
        due("count(7)", x.count(7), 1);
        x.storm(0, 1);
        due("fly, 21 lots and a storm", x.fly(), NOT_POSSIBLE);
        x.sleep(2);
        due("fly when a lot has spoilt", x.fly(), 1);
        due("count(6)", x.count(6), 6);
    }

    private static void promise3LotsInOrder() {
        part = "promise 3, order";
        GlacierHut x = new GlacierHut();
        x.set(3, 9);
        x.load(0, 1, 10);
        x.load(0, 2, 5);
        x.load(0, 3, 10);
        x.load(1, 9, 1);
        x.fly();
        x.sleep(1);
        x.load(0, 4, 9);
        x.load(0, 5, 4);
        x.load(0, 6, 0);
        x.load(0, 7, 364);
        x.fly();
        int[] amounts = {6, 2, 5, 1, 3, 4, 7};
        int[] lasts = {1, 5, 5, 10, 10, 10, 365};
        for (int i = 0; i < amounts.length; i++) {
            due("lotOf(0, " + i + ", 0)", x.lotOf(0, i, 0), amounts[i]);
            due("lotOf(0, " + i + ", 1)", x.lotOf(0, i, 1), lasts[i]);
        }
    }

    private static void promise4Book() {
        part = "promise 4";
        GlacierHut x = stocked();
        x.sleep(3);
        due("book(0, 3, 1)", x.book(0, 3, 1), INVALID);
        due("book(7, 3, 1)", x.book(7, 3, 1), INVALID);
        due("book(1, 2, 1)", x.book(1, 2, 1), INVALID);
        due("book(1, 366, 1)", x.book(1, 366, 1), INVALID);
        due("book(1, 3, 0)", x.book(1, 3, 0), INVALID);
        due("book(1, 3, 10)", x.book(1, 3, 10), INVALID);
        due("book(1, 3, 1)", x.book(1, 3, 1), 0);
        due("book(6, 300, 9)", x.book(6, 300, 9), 1);
        due("book(1, 364, 2)", x.book(1, 364, 2), 2);
        due("book(1, 365, 1), all is spoilt", x.book(1, 365, 1), 3);
        due("book(1, 365, 2), all is spoilt", x.book(1, 365, 2), NOT_POSSIBLE);
        due("count(0)", x.count(0), 4);
        due("count(1)", x.count(1), 4);
    }

    private static void promise4BookNotTaken() {
        part = "promise 4, not taken";
        GlacierHut x = stocked();
        due("book(6, 2, 2)", x.book(6, 2, 2), 0);
        due("book(6, 3, 1)", x.book(6, 3, 1), 1);
        due("book(1, 2, 2), want of beds", x.book(1, 2, 2), NOT_POSSIBLE);
        due("book(1, 3, 1), want of beds", x.book(1, 3, 1), NOT_POSSIBLE);
        due("book(1, 2, 1)", x.book(1, 2, 1), 2);
        due("book(6, 4, 1), those of day 2 have gone", x.book(6, 4, 1), 3);
        due("book(6, 4, 1)", x.book(6, 4, 1), 4);
        x.storm(4, 1);
        due("book(1, 9, 1), a storm keeps guests, and others then have no night left", x.book(1, 9, 1), 5);

        x = with(4, 2, 1);
        x.set(2, 0);
        due("book(2, 0, 1), just enough", x.book(2, 0, 1), 0);
        due("book(1, 0, 1), hungry", x.book(1, 0, 1), NOT_POSSIBLE);
        x = with(4, 0, 1);
        due("book(3, 0, 1), soup for bread is not enough", x.book(3, 0, 1), NOT_POSSIBLE);
        due("book(2, 0, 1), the ration is cut", x.book(2, 0, 1), 0);
        x = with(900, 900, 1);
        due("book(5, 0, 1), cold", x.book(5, 0, 1), NOT_POSSIBLE);
        due("book(4, 0, 2), cold in the second night", x.book(4, 0, 2), NOT_POSSIBLE);
        due("book(4, 0, 1)", x.book(4, 0, 1), 0);

        x = with(900, 900, 2);
        x.book(1, 0, 1);
        x.storm(1, 1);
        due("book(1, 9, 1), the storm makes another one cold", x.book(1, 9, 1), NOT_POSSIBLE);
        x.clear(1);
        due("book(1, 9, 1), it is clear", x.book(1, 9, 1), 1);

        x = stocked();
        x.storm(5, 2);
        due("book(1, 5, 2), it never comes, and is taken", x.book(1, 5, 2), 0);
        due("goneOn(0)", x.goneOn(0), NOT_FOUND);
        x = stocked();
        x.book(4, 0, 9);
        x.set(0, 3);
        due("book(1, 20, 1), another one has no beds", x.book(1, 20, 1), NOT_POSSIBLE);
    }

    private static void promise4Limit() {
        part = "promise 4, limit";
        GlacierHut x = stocked();
        x.set(0, 6);
        for (int i = 0; i < 16; i++) {
            due("book, number " + i, x.book(6, i, 1), i);
        }
        due("book, the 17th that would be taken", x.book(6, 16, 1), LIMIT);
        due("book, the 17th that would not be taken", x.book(6, 15, 1), NOT_POSSIBLE);
        due("book, the 17th, wrong", x.book(7, 16, 1), INVALID);
        due("count(0)", x.count(0), 16);
        due("partyOf(16, 0)", x.partyOf(16, 0), INVALID);
        x.cancel(0);
        due("book, lapsed ones count", x.book(6, 16, 1), LIMIT);
    }

    private static void promise5Cancel() {
        part = "promise 5";
        GlacierHut x = stocked();
        due("cancel(0)", x.cancel(0), INVALID);
        x.book(1, 0, 1);
        x.book(2, 3, 1);
        x.book(3, 4, 1);
        due("cancel(-1)", x.cancel(-1), INVALID);
        due("cancel(3)", x.cancel(3), INVALID);
        due("cancel(1)", x.cancel(1), 2);
        due("cancel(1), lapsed", x.cancel(1), NOT_POSSIBLE);
        due("partyOf(1, 3)", x.partyOf(1, 3), 3);
        x.sleep(1);
        due("cancel(0), it stays", x.cancel(0), NOT_POSSIBLE);
        x.sleep(1);
        due("cancel(0), it is gone", x.cancel(0), NOT_POSSIBLE);
        due("cancel(2)", x.cancel(2), 0);
    }

    private static void promise6Storm() {
        part = "promise 6";
        GlacierHut x = new GlacierHut();
        due("storm(-1, 1)", x.storm(-1, 1), INVALID);
        due("storm(366, 1)", x.storm(366, 1), INVALID);
        due("storm(0, 0)", x.storm(0, 0), INVALID);
        due("storm(0, 31)", x.storm(0, 31), INVALID);
        due("storm(0, 2)", x.storm(0, 2), 2);
        due("storm(1, 2), one of them twice", x.storm(1, 2), 3);
        due("count(5)", x.count(5), 1);
        x.sleep(2);
        due("storm(1, 1), a day before", x.storm(1, 1), INVALID);
        due("storm(10, 1)", x.storm(10, 1), 2);
        due("storm(365, 30)", x.storm(365, 30), 32);
        due("storm(20, 9)", x.storm(20, 9), LIMIT);
        due("clear(20), nothing was told", x.clear(20), 0);
        due("storm(20, 8)", x.storm(20, 8), 40);
        due("storm(20, 8) again", x.storm(20, 8), 40);
        due("storm(19, 1)", x.storm(19, 1), LIMIT);
        x.sleep(1);
        due("count(5)", x.count(5), 0);
        due("storm(19, 1), one is over", x.storm(19, 1), 40);
        due("clear(394)", x.clear(394), 1);
        due("clear(395)", x.clear(395), 0);
    }

    private static void promise7Clear() {
        part = "promise 7";
        GlacierHut x = new GlacierHut();
        x.storm(3, 2);
        due("clear(2)", x.clear(2), 0);
        due("clear(3)", x.clear(3), 1);
        due("clear(3)", x.clear(3), 0);
        due("clear(5)", x.clear(5), 0);
        due("clear(-1)", x.clear(-1), INVALID);
        due("clear(395)", x.clear(395), 0);
        due("clear(396)", x.clear(396), INVALID);
        x.sleep(4);
        due("clear(3)", x.clear(3), INVALID);
        due("count(5)", x.count(5), 1);
        due("clear(4)", x.clear(4), 1);
        due("count(5)", x.count(5), 0);
    }

    private static void promise8Sleep() {
        part = "promise 8";
        GlacierHut x = new GlacierHut();
        due("sleep(0)", x.sleep(0), INVALID);
        due("sleep(61)", x.sleep(61), INVALID);
        for (int i = 0; i < 6; i++) {
            due("sleep(60)", x.sleep(60), 0);
        }
        due("sleep(6)", x.sleep(6), LIMIT);
        due("sleep(61)", x.sleep(61), INVALID);
        due("count(4)", x.count(4), 360);
        due("sleep(5)", x.sleep(5), 0);
        due("count(4)", x.count(4), 365);
        due("sleep(1)", x.sleep(1), LIMIT);
        due("storm(365, 1)", x.storm(365, 1), 1);
        due("clear(364)", x.clear(364), INVALID);
    }

    private static void promise8Supper() {
        part = "promise 8, supper";
        GlacierHut x = with(24, 99, 99);
        x.book(4, 0, 2);
        x.sleep(1);
        due("storeOf(0, 0), 24 is not less than 3 * 4 * 2", x.storeOf(0, 0), 16);
        due("count(11)", x.count(11), 0);
        x.sleep(1);
        due("storeOf(0, 0), the ration is cut", x.storeOf(0, 0), 12);
        due("count(11)", x.count(11), 1);
        due("count(10)", x.count(10), 8);
        x.sleep(1);
        due("storeOf(0, 0), all have gone", x.storeOf(0, 0), 12);
        due("count(11), no guests", x.count(11), 1);

        x = with(6, 99, 99);
        x.book(4, 0, 1);
        x.set(2, 0);
        due("sleep(1), soup is never scarce", x.sleep(1), 2);
        due("storeOf(0, 0)", x.storeOf(0, 0), 0);
        due("storeOf(0, 2)", x.storeOf(0, 2), 6);
        due("count(8)", x.count(8), 2);
        due("count(11)", x.count(11), 0);

        x = with(11, 99, 99);
        x.book(4, 0, 1);
        x.set(1, 1);
        x.sleep(1);
        due("count(11), a full ration of 1 is never cut", x.count(11), 0);
        due("storeOf(0, 2)", x.storeOf(0, 2), 4);

        x = stocked();
        x.book(5, 0, 1);
        x.set(1, 3);
        x.sleep(1);
        due("storeOf(0, 2), 3 portions", x.storeOf(0, 2), 15);
    }

    private static void promise8Bread() {
        part = "promise 8, bread";
        GlacierHut x = with(99, 3, 99);
        x.book(4, 0, 2);
        due("sleep(1)", x.sleep(1), 0);
        due("storeOf(1, 2)", x.storeOf(1, 2), 3);
        due("storeOf(0, 2), one portion for bread", x.storeOf(0, 2), 9);
        due("sleep(1)", x.sleep(1), 0);
        due("storeOf(0, 2), four portions for bread", x.storeOf(0, 2), 21);

        x = with(12, 0, 99);
        x.book(4, 0, 1);
        x.set(1, 3);
        x.set(2, 0);
        due("sleep(1), 16 are needed", x.sleep(1), 4);
        x = with(12, 2, 99);
        x.book(4, 0, 1);
        x.set(1, 3);
        x.set(2, 0);
        due("sleep(1), 14 are needed", x.sleep(1), 2);
        due("storeOf(0, 4)", x.storeOf(0, 4), 0);
        x = with(7, 0, 99);
        x.book(3, 0, 1);
        x.storm(1, 2);
        due("sleep(1)", x.sleep(1), 0);
        due("sleep(1), 5 portions are missing, but 3 guests are all", x.sleep(1), 3);
        due("sleep(2), the third night, and one without guests", x.sleep(2), 3);
        due("count(8)", x.count(8), 6);
    }

    private static void promise8Gas() {
        part = "promise 8, gas";
        GlacierHut x = with(999, 999, 8);
        x.book(4, 0, 1);
        x.book(1, 1, 2);
        x.book(4, 1, 1);
        x.sleep(1);
        due("storeOf(2, 2), 4 guests", x.storeOf(2, 2), 1);
        x.sleep(1);
        due("storeOf(2, 2), 5 guests", x.storeOf(2, 2), 3);
        x.storm(2, 4);
        x.sleep(1);
        due("storeOf(2, 2), 5 guests in a storm", x.storeOf(2, 2), 6);
        due("count(9)", x.count(9), 0);
        x.sleep(1);
        due("storeOf(2, 2), all of it", x.storeOf(2, 2), 8);
        due("count(9)", x.count(9), 1);
        x.sleep(1);
        due("count(9)", x.count(9), 2);
        due("count(8)", x.count(8), 0);

        x = with(99, 99, 9);
        x.storm(0, 3);
        x.sleep(3);
        due("storeOf(2, 2), no guests in a storm", x.storeOf(2, 2), 0);
        due("count(9)", x.count(9), 0);
    }

    private static void promise8ComingAndGoing() {
        part = "promise 8, coming and going";
        GlacierHut x = stocked();
        x.book(2, 1, 2);
        x.book(1, 1, 1);
        x.sleep(1);
        due("partyOf(0, 3) on its day", x.partyOf(0, 3), 0);
        x.storm(1, 1);
        x.sleep(1);
        due("partyOf(0, 3), it did not come in the storm", x.partyOf(0, 3), 0);
        due("partyOf(1, 3)", x.partyOf(1, 3), 0);
        x.sleep(1);
        due("partyOf(0, 3), it came late", x.partyOf(0, 3), 1);
        due("partyOf(0, 5)", x.partyOf(0, 5), 2);
        due("partyOf(1, 3), its days are over", x.partyOf(1, 3), 3);
        x.sleep(1);
        due("partyOf(0, 4)", x.partyOf(0, 4), 2);
        due("partyOf(0, 3), until the next night", x.partyOf(0, 3), 1);
        x.storm(4, 2);
        x.sleep(2);
        due("partyOf(0, 3), kept", x.partyOf(0, 3), 1);
        due("partyOf(0, 4)", x.partyOf(0, 4), 4);
        due("partyOf(0, 6)", x.partyOf(0, 6), 2);
        x.sleep(1);
        due("partyOf(0, 3)", x.partyOf(0, 3), 2);
        due("partyOf(0, 4)", x.partyOf(0, 4), 4);
        due("count(10)", x.count(10), 8);

        x = stocked();
        x.book(1, 0, 1);
        x.storm(0, 2);
        x.sleep(2);
        due("partyOf(0, 3), it lapses on a day of storm, too", x.partyOf(0, 3), 3);
    }

    private static void promise8Beds() {
        part = "promise 8, beds";
        GlacierHut x = stocked();
        x.book(3, 0, 5);
        x.book(4, 1, 2);
        x.book(2, 1, 2);
        x.book(1, 1, 2);
        x.sleep(1);
        x.set(0, 6);
        x.sleep(1);
        due("partyOf(1, 3), 3 and 4 are more than 6", x.partyOf(1, 3), 3);
        due("partyOf(2, 3), 3 and 2 are not", x.partyOf(2, 3), 1);
        due("partyOf(3, 3), it has the last bed", x.partyOf(3, 3), 1);
        due("count(3)", x.count(3), 6);
        x.set(0, 1);
        x.sleep(1);
        due("count(3), who stays has a bed", x.count(3), 6);
        x = stocked();
        x.book(6, 0, 3);
        x.book(1, 1, 1);
        x.sleep(1);
        x.set(0, 2);
        x.sleep(1);
        due("partyOf(1, 3), fewer beds than guests", x.partyOf(1, 3), 3);
        x = stocked();
        x.set(0, 6);
        x.book(6, 0, 2);
        due("book(6, 2, 1), beds of those who go are free", x.book(6, 2, 1), 1);
        x.sleep(3);
        due("partyOf(1, 3)", x.partyOf(1, 3), 1);
    }

    private static void promise8Spoiling() {
        part = "promise 8, spoiling";
        GlacierHut x = new GlacierHut();
        x.load(0, 10, 0);
        x.load(0, 5, 1);
        x.load(2, 9, 9);
        x.load(1, 2, 0);
        x.fly();
        x.book(2, 0, 1);
        x.sleep(1);
        due("storeOf(0, 2), cut", x.storeOf(0, 2), 4);
        due("storeOf(0, 3), what was left", x.storeOf(0, 3), 6);
        due("storeOf(1, 2), good on its last day", x.storeOf(1, 2), 2);
        due("storeOf(1, 3)", x.storeOf(1, 3), 0);
        due("storeOf(0, 0)", x.storeOf(0, 0), 5);
        x.sleep(1);
        due("storeOf(0, 3)", x.storeOf(0, 3), 11);
        due("storeOf(0, 4)", x.storeOf(0, 4), 0);
        due("storeOf(0, 1)", x.storeOf(0, 1), 15);
    }

    private static void promise9Set() {
        part = "promise 9";
        GlacierHut x = new GlacierHut();
        int[] lowest = {1, 1, 0, 0};
        int[] highest = {40, 3, 9, 9};
        int[] first = {12, 2, 3, 1};
        for (int i = 0; i < 4; i++) {
            due("set below", x.set(i, lowest[i] - 1), INVALID);
            due("set above", x.set(i, highest[i] + 1), INVALID);
            due("set lowest", x.set(i, lowest[i]), first[i]);
            due("count", x.count(20 + i), lowest[i]);
            due("set highest", x.set(i, highest[i]), lowest[i]);
            due("count", x.count(20 + i), highest[i]);
        }
        due("set(-1, 1)", x.set(-1, 1), INVALID);
        due("set(4, 1)", x.set(4, 1), INVALID);
        due("count(12)", x.count(12), 4);
    }

    private static void promise10LotOf() {
        part = "promise 10";
        GlacierHut x = new GlacierHut();
        x.load(1, 8, 4);
        x.load(0, 3, 2);
        due("lotOf(1, 0, 0), on the pallet", x.lotOf(1, 0, 0), NOT_FOUND);
        x.fly();
        due("lotOf(1, 0, 0)", x.lotOf(1, 0, 0), 8);
        due("lotOf(1, 0, 1)", x.lotOf(1, 0, 1), 4);
        due("lotOf(0, 0, 0)", x.lotOf(0, 0, 0), 3);
        due("lotOf(1, 1, 0)", x.lotOf(1, 1, 0), NOT_FOUND);
        due("lotOf(2, 0, 0)", x.lotOf(2, 0, 0), NOT_FOUND);
        due("lotOf(1, 99, 0)", x.lotOf(1, 99, 0), NOT_FOUND);
        due("lotOf(1, -1, 0)", x.lotOf(1, -1, 0), INVALID);
        due("lotOf(-1, 0, 0)", x.lotOf(-1, 0, 0), INVALID);
        due("lotOf(3, 0, 0)", x.lotOf(3, 0, 0), INVALID);
        due("lotOf(1, 0, 2)", x.lotOf(1, 0, 2), INVALID);
        due("lotOf(1, 0, -1)", x.lotOf(1, 0, -1), INVALID);
    }

    private static void promise11StoreOf() {
        part = "promise 11";
        GlacierHut x = new GlacierHut();
        x.load(0, 30, 9);
        x.load(0, 7, 0);
        x.load(2, 5, 9);
        due("storeOf(0, 5)", x.storeOf(0, 5), 37);
        due("storeOf(0, 0)", x.storeOf(0, 0), 0);
        x.fly();
        x.load(0, 4, 4);
        due("storeOf(0, 5)", x.storeOf(0, 5), 4);
        due("storeOf(0, 0)", x.storeOf(0, 0), 37);
        due("storeOf(0, 1)", x.storeOf(0, 1), 37);
        due("storeOf(0, 4)", x.storeOf(0, 4), 2);
        x.book(1, 0, 1);
        x.sleep(1);
        due("storeOf(0, 2), a portion for bread too", x.storeOf(0, 2), 3);
        due("storeOf(0, 3)", x.storeOf(0, 3), 4);
        due("storeOf(0, 0)", x.storeOf(0, 0), 30);
        due("storeOf(0, 4)", x.storeOf(0, 4), 1);
        due("storeOf(2, 2)", x.storeOf(2, 2), 1);
        due("storeOf(2, 1)", x.storeOf(2, 1), 5);
        due("storeOf(1, 1)", x.storeOf(1, 1), 0);
        due("storeOf(-1, 0)", x.storeOf(-1, 0), INVALID);
        due("storeOf(3, 0)", x.storeOf(3, 0), INVALID);
        due("storeOf(0, -1)", x.storeOf(0, -1), INVALID);
        due("storeOf(0, 6)", x.storeOf(0, 6), INVALID);
    }

    private static void promise12PartyOf() {
        part = "promise 12";
        GlacierHut x = stocked();
        x.book(5, 1, 2);
        x.book(1, 2, 9);
        int[] booked = {5, 1, 2, 0, 0, NOT_FOUND, 0};
        for (int i = 0; i < booked.length; i++) {
            due("partyOf(0, " + i + ")", x.partyOf(0, i), booked[i]);
        }
        x.sleep(2);
        int[] staying = {5, 1, 2, 1, 1, 1, 0};
        for (int i = 0; i < staying.length; i++) {
            due("partyOf(0, " + i + ")", x.partyOf(0, i), staying[i]);
        }
        x.cancel(1);
        x.storm(3, 1);
        x.sleep(3);
        int[] gone = {5, 1, 2, 2, 3, 1, 1};
        for (int i = 0; i < gone.length; i++) {
            due("partyOf(0, " + i + ")", x.partyOf(0, i), gone[i]);
        }
        int[] lapsed = {1, 2, 9, 3, 0, NOT_FOUND, 0};
        for (int i = 0; i < lapsed.length; i++) {
            due("partyOf(1, " + i + ")", x.partyOf(1, i), lapsed[i]);
        }
        due("partyOf(2, 0)", x.partyOf(2, 0), INVALID);
        due("partyOf(-1, 0)", x.partyOf(-1, 0), INVALID);
        due("partyOf(0, -1)", x.partyOf(0, -1), INVALID);
        due("partyOf(0, 7)", x.partyOf(0, 7), INVALID);
        due("partyOf(2, 5)", x.partyOf(2, 5), INVALID);
        x = stocked();
        x.book(1, 0, 1);
        x.sleep(1);
        due("partyOf(0, 5), the day 0", x.partyOf(0, 5), 0);
    }

    private static void promise13Count() {
        part = "promise 13";
        GlacierHut x = with(16, 4, 2);
        x.load(0, 1, 1);
        x.book(4, 0, 1);
        x.book(3, 1, 1);
        x.book(1, 5, 1);
        due("book(1, 5, 1) is not taken", x.count(0), 2);
        x.cancel(1);
        x.storm(1, 2);
        x.sleep(2);
        x.keep();
        x.type(32);
        x.type(33);
        int[] want = {2, 0, 1, 4, 2, 1, 1, 1, 0, 1, 8, 2, 4, 2, 1};
        for (int i = 0; i < want.length; i++) {
            due("count(" + i + ")", x.count(i), want[i]);
        }
        due("count(-1)", x.count(-1), INVALID);
        for (int what = 15; what <= 19; what++) {
            due("count(" + what + ")", x.count(what), INVALID);
        }
        due("count(24)", x.count(24), INVALID);
        due("sleep(2)", x.sleep(2), 4);
        due("count(8)", x.count(8), 4);
        due("count(9)", x.count(9), 2);
        due("count(10)", x.count(10), 12);
        due("count(3)", x.count(3), 0);
    }

    private static void promise14GoneOn() {
        part = "promise 14";
        GlacierHut x = stocked();
        due("goneOn(0)", x.goneOn(0), INVALID);
        x.book(2, 1, 3);
        x.book(2, 2, 1);
        due("goneOn(0)", x.goneOn(0), 4);
        due("goneOn(-1)", x.goneOn(-1), INVALID);
        due("goneOn(2)", x.goneOn(2), INVALID);
        x.storm(2, 3);
        due("goneOn(0), it is kept", x.goneOn(0), 5);
        due("goneOn(1), it cannot come", x.goneOn(1), NOT_FOUND);
        x.sleep(2);
        due("goneOn(0), it stays", x.goneOn(0), 5);
        x.sleep(3);
        due("goneOn(0), it goes today", x.goneOn(0), 5);
        x.sleep(1);
        due("goneOn(0), it is gone", x.goneOn(0), NOT_POSSIBLE);
        due("goneOn(1), it is lapsed", x.goneOn(1), NOT_POSSIBLE);
        x.book(3, 6, 1);
        x.book(3, 6, 1);
        x.set(0, 3);
        due("goneOn(3), no beds", x.goneOn(3), NOT_FOUND);
        due("goneOn(2)", x.goneOn(2), 7);
        due("count(4), nothing went by", x.count(4), 6);
        due("partyOf(2, 3)", x.partyOf(2, 3), 0);

        x = stocked();
        x.book(1, 364, 1);
        x.storm(365, 30);
        due("goneOn(0), beyond 365", x.goneOn(0), 395);
        due("most(365, 1), it would be hungry behind 365", x.most(365, 1), 0);
    }

    private static void promise15OutOn() {
        part = "promise 15";
        GlacierHut x = with(20, 4, 3);
        due("outOn(-1)", x.outOn(-1), INVALID);
        due("outOn(3)", x.outOn(3), INVALID);
        due("outOn(0), no parties", x.outOn(0), NOT_FOUND);
        x.book(2, 2, 3);
        due("outOn(0)", x.outOn(0), NOT_FOUND);
        due("outOn(1)", x.outOn(1), 3);
        due("outOn(2)", x.outOn(2), 4);
        due("count(4)", x.count(4), 0);
        due("storeOf(1, 0)", x.storeOf(1, 0), 4);
        x.sleep(5);
        due("outOn(1), it is 0, and the party still stays", x.outOn(1), 5);
        x.sleep(1);
        due("outOn(1), no party any more", x.outOn(1), NOT_FOUND);

        x = new GlacierHut();
        x.load(0, 99, 9);
        x.load(1, 5, 3);
        x.load(2, 5, 2);
        x.fly();
        x.book(1, 0, 3);
        due("outOn(2), it spoils", x.outOn(2), 2);
        due("outOn(1), it spoils in the last night, in which the party goes", x.outOn(1), 3);
        due("outOn(0)", x.outOn(0), NOT_FOUND);
        x = with(99, 0, 99);
        x.book(1, 3, 1);
        due("outOn(1), there never was any", x.outOn(1), 0);
    }

    private static void promise16Most() {
        part = "promise 16";
        GlacierHut x = with(10, 99, 99);
        due("most(0, 1)", x.most(0, 1), 6);
        due("most(0, 2)", x.most(0, 2), 5);
        due("most(0, 7)", x.most(0, 7), 1);
        due("most(0, 8)", x.most(0, 8), 0);
        due("most(-1, 1)", x.most(-1, 1), INVALID);
        due("most(366, 1)", x.most(366, 1), INVALID);
        due("most(0, 0)", x.most(0, 0), INVALID);
        due("most(0, 10)", x.most(0, 10), INVALID);
        x = with(99, 99, 2);
        x.set(0, 4);
        due("most(0, 1), beds", x.most(0, 1), 4);
        due("most(0, 3), gas", x.most(0, 3), 0);
        due("count(0)", x.count(0), 0);

        x = stocked();
        x.set(0, 6);
        for (int i = 0; i < 16; i++) {
            x.book(1, i, 1);
        }
        due("most(300, 1)", x.most(300, 1), LIMIT);
        due("most(366, 1)", x.most(366, 1), INVALID);

        // 7 guests eat all 21 portions in the first night; 8 make soup scarce and eat 8
        x = with(21, 99, 99);
        x.book(6, 0, 2);
        x.set(1, 3);
        x.set(2, 1);
        due("most(0, 2), greater than one that is not taken", x.most(0, 2), 4);
        due("book(1, 0, 2)", x.book(1, 0, 2), NOT_POSSIBLE);
        due("book(5, 0, 2)", x.book(5, 0, 2), NOT_POSSIBLE);
        due("book(2, 0, 2)", x.book(2, 0, 2), 1);
    }

    private static void promise17And18Snapshot() {
        part = "promises 17 and 18";
        GlacierHut x = stocked();
        due("restore()", x.restore(), NOT_POSSIBLE);
        x.book(3, 1, 2);
        x.storm(2, 1);
        x.load(1, 7, 7);
        x.type(65);
        int history = x.count(12);
        due("keep()", x.keep(), 0);
        due("count(12), keep is no change", x.count(12), history);
        due("count(14)", x.count(14), 1);
        x.sleep(5);
        x.set(0, 1);
        x.type(66);
        due("restore()", x.restore(), 0);
        due("count(4)", x.count(4), 0);
        due("count(20)", x.count(20), 12);
        due("partyOf(0, 3)", x.partyOf(0, 3), 0);
        due("storeOf(0, 2)", x.storeOf(0, 2), 0);
        due("storeOf(1, 5)", x.storeOf(1, 5), 7);
        due("count(13), the text is not of the state", x.count(13), 2);
        due("count(12)", x.count(12), 4);
        due("clear(2)", x.clear(2), 1);
        due("restore() again, the snapshot stays", x.restore(), 0);
        due("clear(2)", x.clear(2), 1);
        x.undo();
        x.undo();
        x.undo();
        due("undo()", x.undo(), 0);
        due("count(4), ahead of the first restore", x.count(4), 5);
        due("count(14), undo leaves the snapshot", x.count(14), 1);
        due("keep()", x.keep(), 5);
        x.sleep(4);
        due("restore()", x.restore(), 5);
    }

    private static void promise19Undo() {
        part = "promise 19";
        GlacierHut x = new GlacierHut();
        due("undo()", x.undo(), NOT_POSSIBLE);
        for (int i = 1; i <= 6; i++) {
            x.load(0, i, i);
        }
        due("count(12)", x.count(12), 4);
        due("undo()", x.undo(), 3);
        due("storeOf(0, 5)", x.storeOf(0, 5), 15);
        due("undo()", x.undo(), 2);
        due("undo()", x.undo(), 1);
        due("count(7)", x.count(7), 3);
        due("load", x.load(1, 1, 1), 4);
        due("count(12), undo is not recorded", x.count(12), 2);
        due("undo()", x.undo(), 1);
        due("undo()", x.undo(), 0);
        due("undo()", x.undo(), NOT_POSSIBLE);
        due("count(7)", x.count(7), 2);
        due("storeOf(0, 5)", x.storeOf(0, 5), 3);
    }

    private static void promise19WhatIsRecorded() {
        part = "promise 19, what is recorded";
        GlacierHut x = stocked();
        drain(x, 4);
        due("fly with nothing, in the state ahead of the first of four changes", x.fly(), NOT_POSSIBLE);
        due("count(12), an error is not recorded", x.count(12), 0);

        x = stocked();
        x.undo();
        due("undo of a flight", x.count(7), 3);
        x.fly();
        x.book(2, 0, 1);
        x.undo();
        due("undo of a booking", x.count(0), 0);
        x.book(2, 1, 1);
        x.cancel(0);
        x.undo();
        due("undo of a cancelling", x.partyOf(0, 3), 0);
        x.storm(5, 2);
        x.undo();
        due("undo of storms", x.clear(5), 0);
        x.undo();
        x.storm(0, 1);
        x.clear(0);
        x.undo();
        due("undo of a clearing", x.count(5), 1);
        x.undo();
        x.set(2, 9);
        x.undo();
        due("undo of a setting", x.count(22), 3);
        x.sleep(3);
        x.undo();
        due("undo of a sleep", x.count(4), 0);
        due("undo of a sleep", x.partyOf(0, 3), 0);
        due("undo of a sleep", x.storeOf(0, 0), 999);
        x.keep();
        x.sleep(1);
        x.restore();
        x.undo();
        due("undo of a restore", x.count(4), 1);
        x.undo();
        put(x, "n9;");
        x.play();
        x.undo();
        due("undo of a play", x.count(4), 0);
        due("undo leaves the text", x.count(13), 3);
        x = with(7, 0, 1);
        x.book(3, 0, 1);
        x.storm(1, 1);
        due("sleep(2)", x.sleep(2), 3);
        due("count(9)", x.count(9), 1);
        x.undo();
        due("undo of hungry guests", x.count(8), 0);
        due("undo of cold nights", x.count(9), 0);
        x = new GlacierHut();
        int before = x.count(12);
        x.clear(300);
        due("count(12), a clearing that finds no storm is a change", x.count(12), Math.min(4, before + 1));
    }

    private static void promise19All() {
        part = "promises 18 and 19, all of the state";
        int changes = 8;
        for (int i = 0; i < changes; i++) {
            GlacierHut x = lived();
            String before = looks(x);
            change(x, i);
            String behind = looks(x);
            due("change " + i + " is none", before.equals(behind) ? 1 : 0, 0);
            x.undo();
            due("undo of change " + i, looks(x).equals(before) ? 1 : 0, 1);
            x.keep();
            change(x, i);
            x.sleep(9);
            x.load(1, 5, 5);
            x.restore();
            due("restore behind change " + i, looks(x).equals(before) ? 1 : 0, 1);
            x.undo();
            x.undo();
            x.undo();
            due("undo of all behind change " + i, looks(x).equals(behind) ? 1 : 0, 1);
        }
        GlacierHut x = new GlacierHut();
        for (int value = 1; value <= 8; value++) {
            x.set(3, value);
        }
        for (int i = 3; i >= 0; i--) {
            due("undo to " + i, x.undo(), i);
            due("the setting then", x.count(23), i + 4);
        }
    }

    /** A hut in which all that can be is there: kept, lapsed and hungry guests, cold nights, spoilt lots. */
    private static GlacierHut lived() {
        GlacierHut x = new GlacierHut();
        x.set(3, 9);
        x.load(0, 13, 9);
        x.load(1, 9, 1);
        x.load(2, 1, 9);
        x.fly();
        x.book(4, 0, 1);
        x.storm(1, 2);
        x.sleep(3);
        x.load(0, 40, 20);
        x.load(1, 30, 9);
        x.load(2, 20, 90);
        x.load(1, 30, 4);
        x.fly();
        x.book(5, 3, 2);
        x.book(2, 4, 1);
        x.cancel(2);
        x.book(2, 5, 1);
        x.storm(6, 1);
        x.sleep(1);
        x.load(2, 8, 8);
        x.load(0, 7, 3);
        return x;
    }

    private static void change(GlacierHut x, int which) {
        switch (which) {
            case 0:
                due("load", x.load(1, 3, 3), 3);
                break;
            case 1:
                due("fly", x.fly(), 2);
                break;
            case 2:
                due("book", x.book(1, 8, 1), 4);
                break;
            case 3:
                due("cancel", x.cancel(3), 0);
                break;
            case 4:
                due("storm", x.storm(4, 3), 3);
                break;
            case 5:
                due("clear", x.clear(6), 1);
                break;
            case 6:
                due("sleep", x.sleep(4), 0);
                break;
            default:
                due("set", x.set(1, 3), 2);
                break;
        }
    }

    /** All that a hut tells, but of the history, the text and the snapshot. */
    private static String looks(GlacierHut x) {
        StringBuilder all = new StringBuilder();
        for (int i = 0; i < 24; i++) {
            if (i < 12 || i > 14) {
                all.append(x.count(i)).append(' ');
            }
        }
        for (int kind = 0; kind < 3; kind++) {
            for (int i = 0; i < 6; i++) {
                all.append(x.storeOf(kind, i)).append(' ').append(x.lotOf(kind, i, 0)).append(' ')
                    .append(x.lotOf(kind, i, 1)).append(' ');
            }
            all.append(x.outOn(kind)).append(' ');
        }
        for (int party = 0; party < x.count(0); party++) {
            for (int i = 0; i < 7; i++) {
                all.append(x.partyOf(party, i)).append(' ');
            }
            all.append(x.goneOn(party)).append(' ');
        }
        return all.toString();
    }

    private static void drain(GlacierHut x, int states) {
        for (int i = 1; i <= states; i++) {
            due("undo()", x.undo(), states - i);
        }
        due("undo()", x.undo(), NOT_POSSIBLE);
    }

    private static void promise20And21Text() {
        part = "promises 20 and 21";
        GlacierHut x = new GlacierHut();
        due("clearText()", x.clearText(), 0);
        due("type(31)", x.type(31), INVALID);
        due("type(127)", x.type(127), INVALID);
        due("type(32)", x.type(32), 1);
        due("type(126)", x.type(126), 2);
        due("count(13)", x.count(13), 2);
        due("count(12), no changes", x.count(12), 0);
        due("clearText()", x.clearText(), 2);
        due("clearText()", x.clearText(), 0);
        for (int i = 1; i <= 60; i++) {
            due("type(48)", x.type(48), i);
        }
        due("type(48), the 61st", x.type(48), LIMIT);
        due("type(31), the 61st", x.type(31), INVALID);
        due("clearText()", x.clearText(), 60);
        due("type(48)", x.type(48), 1);
    }

    private static void promise22Forms() {
        part = "promise 22, forms";
        String[] bad = {"l", "f", ";", " f;", "F;", "l0,9,9", "l0,9;", "l0,9,9,9;", "l0,,9;", "l,9,9;", "l0;9;9;",
            "l0,0009,9;", "l0,1000,9;", "l0, 9,9;", "l-1,9,9;", "l0,9,;", "f1;", "b1,0;", "b1,0,1,1;", "x;", "x1,1;",
            "x0000;", "s1;", "s1,1,1;", "n;", "n1,1;", "n1", "n1 ;", "n+1;", "n1a;", "c1;", "r;", "z1;", "n:;", "n/;"};
        for (String text : bad) {
            faultDue(new GlacierHut(), text, 0, 1, NOT_FOUND);
        }
        String[] good = {"l0,9,9;", "l002,099,000;", "l2,999,365;", "s0,1;", "s365,30;", "n1;", "n060;", ""};
        for (String text : good) {
            faultDue(new GlacierHut(), text, NOT_FOUND, NOT_FOUND, NOT_FOUND);
        }
    }

    private static void promise22Fault() {
        part = "promise 22";
        faultDue(new GlacierHut(), "l3,1,1;", 0, 2, INVALID);
        faultDue(new GlacierHut(), "l1,0,1;", 0, 2, INVALID);
        faultDue(new GlacierHut(), "f;", 0, 2, NOT_POSSIBLE);
        faultDue(new GlacierHut(), "x0;", 0, 2, INVALID);
        faultDue(new GlacierHut(), "b1,0,1;", 0, 2, NOT_POSSIBLE);
        faultDue(new GlacierHut(), "b7,0,1;", 0, 2, INVALID);
        faultDue(new GlacierHut(), "s0,31;", 0, 2, INVALID);
        faultDue(new GlacierHut(), "s0,30;s30,11;", 6, 2, LIMIT);
        faultDue(new GlacierHut(), "n0;", 0, 2, INVALID);
        faultDue(new GlacierHut(), "n60;n60;n60;n60;n60;n60;n5;n1;", 27, 2, LIMIT);
        faultDue(new GlacierHut(), "l0,1,1;f;l0,1,1;f;", 16, 2, NOT_POSSIBLE);
        faultDue(new GlacierHut(), "n1;l0,1,1;f;f;", 12, 2, NOT_POSSIBLE);
        faultDue(new GlacierHut(), "n1;s0,1;", 3, 2, INVALID);
        faultDue(new GlacierHut(), "n1;s1,1;l0,1,1;f;", 15, 2, NOT_POSSIBLE);
        faultDue(new GlacierHut(), "l0,1,1;q", 7, 1, NOT_FOUND);
        faultDue(new GlacierHut(), "l0,1,1;l0,1,1", 7, 1, NOT_FOUND);
        faultDue(new GlacierHut(), "f;q", 0, 2, NOT_POSSIBLE);
        faultDue(new GlacierHut(), "n1;;", 3, 1, NOT_FOUND);
        faultDue(stocked(), "b1,0,1;x0;x0;", 10, 2, NOT_POSSIBLE);
        faultDue(stocked(), "b6,0,1;b6,0,1;b6,0,1;", 14, 2, NOT_POSSIBLE);
        faultDue(stocked(), "b6,0,1;n1;x0;", 10, 2, NOT_POSSIBLE);

        GlacierHut x = new GlacierHut();
        due("fault(-1)", x.fault(-1), INVALID);
        due("fault(3)", x.fault(3), INVALID);
        due("fault(0), no text", x.fault(0), NOT_FOUND);
        due("fault(1), no text", x.fault(1), NOT_FOUND);
        due("fault(2), no text", x.fault(2), NOT_FOUND);
        put(x, "l0,5,5;f;n3;");
        due("fault(0)", x.fault(0), NOT_FOUND);
        due("count(4), nothing is done", x.count(4), 0);
        due("count(7)", x.count(7), 0);
        due("count(12)", x.count(12), 0);
        due("fault(3), no fault", x.fault(3), INVALID);
        x = new GlacierHut();
        for (int i = 0; i < 5; i++) {
            x.load(0, 1, 1);
        }
        put(x, "l0,1,1;l0,1,1;");
        due("fault(2)", x.fault(2), LIMIT);
        due("fault(0)", x.fault(0), 7);
        x = stocked();
        for (int i = 0; i < 16; i++) {
            x.book(1, i, 1);
        }
        put(x, "b1,20,1;");
        due("fault(2), a 17th party", x.fault(2), LIMIT);
    }

    private static void promise23Play() {
        part = "promise 23";
        GlacierHut x = new GlacierHut();
        due("play(), no text", x.play(), 0);
        due("count(12), one change also without commands", x.count(12), 1);
        put(x, "l0,99,99;l1,9,99;l2,9,99;f;b3,1,2;s4,2;b1,9,1;x1;n3;");
        due("play()", x.play(), 9);
        due("count(12), one change", x.count(12), 2);
        due("count(13), the text stays", x.count(13), 52);
        due("count(4)", x.count(4), 3);
        due("count(0)", x.count(0), 2);
        due("count(6)", x.count(6), 1);
        due("partyOf(0, 3)", x.partyOf(0, 3), 1);
        due("partyOf(1, 3)", x.partyOf(1, 3), 3);
        due("storeOf(1, 0)", x.storeOf(1, 0), 3);
        due("clear(4)", x.clear(4), 1);
        due("play(), again", x.play(), NOT_POSSIBLE);
        due("fault(2)", x.fault(2), NOT_POSSIBLE);
        due("fault(0), no flight is left", x.fault(0), 25);
        due("count(7), nothing of it is done", x.count(7), 0);
        due("undo()", x.undo(), 2);
        due("undo()", x.undo(), 1);
        due("count(4)", x.count(4), 0);
        due("count(0)", x.count(0), 0);
        due("count(7)", x.count(7), 0);
        due("undo()", x.undo(), 0);
        x.keep();
        put(x, "n1;");
        due("play()", x.play(), 1);
        due("play()", x.play(), 1);
        due("count(4)", x.count(4), 2);
        due("count(14)", x.count(14), 1);
    }

    /** No argument, however far, may be answered by an exception. */
    private static void farArguments() {
        part = "far arguments";
        int[] far = {Integer.MIN_VALUE, Integer.MIN_VALUE + 1, -21, -1, 10000, Integer.MAX_VALUE - 20, Integer.MAX_VALUE};
        for (int a : far) {
            GlacierHut x = stocked();
            x.book(1, 0, 1);
            due("load", x.load(a, 1, 1), INVALID);
            due("load", x.load(1, a, 1), INVALID);
            due("load", x.load(1, 1, a), INVALID);
            due("book", x.book(a, 1, 1), INVALID);
            due("book", x.book(1, a, 1), INVALID);
            due("book", x.book(1, 1, a), INVALID);
            due("cancel", x.cancel(a), INVALID);
            due("storm", x.storm(a, 1), INVALID);
            due("storm", x.storm(1, a), INVALID);
            due("clear", x.clear(a), INVALID);
            due("sleep", x.sleep(a), INVALID);
            due("set", x.set(a, 1), INVALID);
            due("set", x.set(0, a), INVALID);
            due("lotOf", x.lotOf(a, 0, 0), INVALID);
            due("lotOf", x.lotOf(0, a, 0), a < 0 ? INVALID : NOT_FOUND);
            due("lotOf", x.lotOf(0, 0, a), INVALID);
            due("storeOf", x.storeOf(a, 0), INVALID);
            due("storeOf", x.storeOf(0, a), INVALID);
            due("partyOf", x.partyOf(a, 0), INVALID);
            due("partyOf", x.partyOf(0, a), INVALID);
            due("count", x.count(a), INVALID);
            due("goneOn", x.goneOn(a), INVALID);
            due("outOn", x.outOn(a), INVALID);
            due("most", x.most(a, 1), INVALID);
            due("most", x.most(1, a), INVALID);
            due("type", x.type(a), INVALID);
            due("fault", x.fault(a), INVALID);
        }
    }
}
