/** The edges in the sentences on stores: "Stores" of the Terms, and the promises 1, 2, 3, 10 and 11. */
public final class GlacierHutStoresEdges {
    public static void main(String[] args) {
        newHut();
        palletHoldsSix();
        lastDayCountsFromTheFlight();
        flightsInAll();
        flightSettingBelowFlights();
        noFlightOnADayOfStorm();
        hutHoldsTwentyLots();
        usedUpLotsAreGone();
        spoiltLotsAreGone();
        earliestLastDayFirst();
        loadRanges();
        loadErrors();
        flyErrors();
        flyErrorsInOrder();
        lotOfRanges();
        lotOfTwenty();
        storeOfRanges();
        storeOfAmounts();
        stockIsAllLots();
        Check.end();
    }

    private static void newHut() {
        Check.sentence("Creates an empty hut, on the day 0");
        GlacierHut x = new GlacierHut();
        Check.due("count(4)", x.count(4), 0);
        for (int kind = 0; kind < 3; kind++) {
            for (int what = 0; what < 6; what++) {
                Check.due("storeOf(" + kind + ", " + what + ")", x.storeOf(kind, what), 0);
            }
            Check.due("lotOf(" + kind + ", 0, 0)", x.lotOf(kind, 0, 0), Check.NOT_FOUND);
        }
        for (int what = 0; what <= 14; what++) {
            Check.due("count(" + what + ")", x.count(what), 0);
        }
        Check.due("storms ahead, but for one", x.storm(0, 1), 1);
        Check.refused("fly()", GlacierHut::new, GlacierHut::fly, Check.NOT_POSSIBLE);
        Check.refused("undo()", GlacierHut::new, GlacierHut::undo, Check.NOT_POSSIBLE);
        Check.refused("restore()", GlacierHut::new, GlacierHut::restore, Check.NOT_POSSIBLE);
        Check.refused("goneOn(0)", GlacierHut::new, y -> y.goneOn(0), Check.INVALID);
        Check.refused("fault(0)", GlacierHut::new, y -> y.fault(0), Check.NOT_FOUND);
        Check.onlyTells("most(0, 1)", GlacierHut::new, y -> y.most(0, 1), 0);
        Check.onlyTells("clearText()", GlacierHut::new, GlacierHut::clearText, 0);
        GlacierHut other = new GlacierHut();
        x.load(0, 9, 9);
        Check.due("count(7) of another hut", other.count(7), 0);
    }

    private static GlacierHut fullPallet() {
        GlacierHut x = new GlacierHut();
        for (int i = 1; i <= 6; i++) {
            Check.due("load, number " + i, x.load(i % 3, i, i), i);
        }
        return x;
    }

    private static void palletHoldsSix() {
        Check.sentence("Lots are put on the pallet (at most 6)");
        Check.refused("load, the seventh", GlacierHutStoresEdges::fullPallet, x -> x.load(0, 1, 0), Check.LIMIT);
        GlacierHut x = fullPallet();
        Check.due("fly() of a full pallet", x.fly(), 6);
        Check.due("load on the empty pallet", x.load(0, 1, 0), 1);
        x = new GlacierHut();
        for (int i = 1; i <= 5; i++) {
            x.load(0, 1, 0);
        }
        Check.due("load, the sixth", x.load(0, 1, 0), 6);
    }

    private static void lastDayCountsFromTheFlight() {
        Check.sentence("their last day is the day of the flight plus that number");
        GlacierHut x = new GlacierHut();
        x.load(0, 1, 0);
        x.load(0, 2, 5);
        x.load(0, 3, 365);
        Check.sleepUntil(x, 60);
        Check.due("fly()", x.fly(), 3);
        Check.due("lotOf(0, 0, 1)", x.lotOf(0, 0, 1), 60);
        Check.due("lotOf(0, 1, 1)", x.lotOf(0, 1, 1), 65);
        Check.due("lotOf(0, 2, 1)", x.lotOf(0, 2, 1), 425);
        x = new GlacierHut();
        x.load(2, 4, 365);
        Check.sleepUntil(x, 365);
        Check.due("fly() on the last day", x.fly(), 1);
        Check.due("lotOf(2, 0, 1)", x.lotOf(2, 0, 1), 730);
    }

    /** A hut with a lot on the pallet behind so many flights. */
    private static GlacierHut flown(int flights, int setting) {
        GlacierHut x = new GlacierHut();
        x.set(3, 9);
        for (int i = 1; i <= flights; i++) {
            x.load(0, 1, 300);
            Check.due("fly(), number " + i, x.fly(), 1);
        }
        x.load(0, 1, 300);
        x.set(3, setting);
        return x;
    }

    private static void flightsInAll() {
        Check.sentence("There are setting 3 flights at most in all");
        Check.refused("fly(), the first of 0", () -> flown(0, 0), GlacierHut::fly, Check.NOT_POSSIBLE);
        Check.changes("fly(), the first of 1", () -> flown(0, 1), GlacierHut::fly, 1);
        Check.refused("fly(), the second of 1", () -> flown(1, 1), GlacierHut::fly, Check.NOT_POSSIBLE);
        Check.changes("fly(), the ninth of 9", () -> flown(8, 9), GlacierHut::fly, 1);
        Check.refused("fly(), the tenth of 9", () -> flown(9, 9), GlacierHut::fly, Check.NOT_POSSIBLE);
        GlacierHut x = flown(9, 9);
        Check.due("count(6)", x.count(6), 9);
        Check.sleepUntil(x, 300);
        Check.due("fly(), the tenth on another day", x.fly(), Check.NOT_POSSIBLE);
    }

    private static void flightSettingBelowFlights() {
        Check.sentence("there were all flights");
        Check.refused("fly(), the fourth of 2", () -> flown(3, 2), GlacierHut::fly, Check.NOT_POSSIBLE);
        Check.refused("fly(), the fourth of 3", () -> flown(3, 3), GlacierHut::fly, Check.NOT_POSSIBLE);
        Check.changes("fly(), the fourth of 4", () -> flown(3, 4), GlacierHut::fly, 1);
        GlacierHut x = flown(0, 1);
        x.fly();
        x.undo();
        Check.due("count(6), the flight is undone", x.count(6), 0);
        Check.due("fly() again", x.fly(), 1);
    }

    private static void noFlightOnADayOfStorm() {
        Check.sentence("there is none on a day of storm");
        GlacierHut x = new GlacierHut();
        x.set(3, 9);
        x.storm(1, 2);
        x.load(0, 1, 9);
        Check.due("fly() on the day before", x.fly(), 1);
        x.load(0, 1, 9);
        x.sleep(1);
        Check.due("fly() on the first day of it", x.fly(), Check.NOT_POSSIBLE);
        x.sleep(1);
        Check.due("fly() on the last day of it", x.fly(), Check.NOT_POSSIBLE);
        x.sleep(1);
        Check.due("fly() on the day behind", x.fly(), 1);
        x.load(0, 1, 9);
        x.storm(365, 1);
        Check.sleepUntil(x, 365);
        Check.due("fly() in a storm on the day 365", x.fly(), Check.NOT_POSSIBLE);
        x.clear(365);
        Check.due("fly() when it has been cleared", x.fly(), 1);
    }

    /** A hut with so many lots, and some more of bread on the pallet. */
    private static GlacierHut lots(int inTheHut, int onThePallet) {
        GlacierHut x = new GlacierHut();
        x.set(3, 9);
        for (int i = 0; i < inTheHut; i++) {
            x.load(i % 3, 5, 300);
            if (x.count(7) == 6 || i == inTheHut - 1) {
                x.fly();
            }
        }
        for (int i = 0; i < onThePallet; i++) {
            x.load(1, 7, 300);
        }
        return x;
    }

    private static void hutHoldsTwentyLots() {
        Check.sentence("The hut has at most 20 lots at a time");
        Check.changes("fly(), 14 and 6 lots", () -> lots(14, 6), GlacierHut::fly, 6);
        Check.changes("fly(), 19 lots and 1", () -> lots(19, 1), GlacierHut::fly, 1);
        Check.refused("fly(), 20 lots and 1", () -> lots(20, 1), GlacierHut::fly, Check.LIMIT);
        Check.refused("fly(), 19 lots and 2", () -> lots(19, 2), GlacierHut::fly, Check.LIMIT);
        Check.refused("fly(), 15 lots and 6", () -> lots(15, 6), GlacierHut::fly, Check.LIMIT);
        Check.refused("fly(), 20 lots and 6", () -> lots(20, 6), GlacierHut::fly, Check.LIMIT);
        GlacierHut x = lots(20, 1);
        Check.due("storeOf(0, 4)", x.storeOf(0, 4), 7);
        Check.due("storeOf(1, 4)", x.storeOf(1, 4), 7);
        Check.due("storeOf(2, 4)", x.storeOf(2, 4), 6);
    }

    private static void usedUpLotsAreGone() {
        Check.sentence("used up ones are gone");
        // 19 lots of 5, and one of bread that the 5 guests of the first night use up
        GlacierHut x = lots(20, 1);
        Check.due("book(5, 0, 1)", x.book(5, 0, 1), 0);
        Check.due("fly()", x.fly(), Check.LIMIT);
        x.sleep(1);
        Check.due("storeOf(1, 4), five portions of five are used", x.storeOf(1, 4), 6);
        Check.due("storeOf(0, 4), ten of five and five", x.storeOf(0, 4), 5);
        Check.due("storeOf(2, 4), two of five", x.storeOf(2, 4), 6);
        Check.due("lotOf(2, 0, 0)", x.lotOf(2, 0, 0), 3);
        Check.due("fly()", x.fly(), 1);
        Check.due("storeOf(1, 4)", x.storeOf(1, 4), 7);
        x = Check.with(9, 0, 1);
        x.book(4, 0, 1);
        x.sleep(1);
        Check.due("storeOf(2, 4), the only unit is used", x.storeOf(2, 4), 0);
        Check.due("lotOf(2, 0, 0)", x.lotOf(2, 0, 0), Check.NOT_FOUND);
        Check.due("storeOf(0, 4), a portion is left", x.storeOf(0, 4), 1);
        Check.due("lotOf(0, 0, 0)", x.lotOf(0, 0, 0), 1);
    }

    private static void spoiltLotsAreGone() {
        Check.sentence("Lots whose last day is this one spoil");
        GlacierHut x = lots(19, 0);
        x.load(0, 9, 0);
        x.fly();
        x.load(0, 9, 9);
        Check.due("fly() on the last day of one of 20 lots", x.fly(), Check.LIMIT);
        x.sleep(1);
        Check.due("fly() behind the night", x.fly(), 1);
    }

    private static void earliestLastDayFirst() {
        Check.sentence("used by their last days, the earliest first, of several by the order in which they came");
        GlacierHut x = new GlacierHut();
        x.set(3, 9);
        x.set(2, 0);
        x.load(0, 3, 9);
        x.load(0, 4, 9);
        x.load(0, 2, 7);
        x.load(1, 99, 50);
        x.load(2, 99, 50);
        x.fly();
        x.load(0, 5, 9);
        x.load(0, 1, 7);
        x.fly();
        lotsDue(x, 2, 1, 3, 4, 5);
        Check.due("book(1, 0, 6)", x.book(1, 0, 6), 0);
        x.sleep(1);
        lotsDue(x, 1, 3, 4, 5);
        x.sleep(1);
        lotsDue(x, 2, 4, 5);
        x.load(0, 6, 7);
        x.load(0, 7, 6);
        x.fly();
        lotsDue(x, 7, 2, 4, 5, 6);
        x.sleep(3);
        lotsDue(x, 1, 2, 4, 5, 6);
        x.sleep(1);
        lotsDue(x, 1, 4, 5, 6);
    }

    private static void lotsDue(GlacierHut x, int... amounts) {
        for (int i = 0; i < amounts.length; i++) {
            Check.due("lotOf(0, " + i + ", 0) on the day " + x.count(4), x.lotOf(0, i, 0), amounts[i]);
        }
        Check.due("storeOf(0, 4) on the day " + x.count(4), x.storeOf(0, 4), amounts.length);
    }

    private static void loadRanges() {
        Check.sentence("kind: 0 to 2; amount: 1 to 999; days: 0 to 365");
        Check.refused("load(-1, 5, 5)", GlacierHut::new, x -> x.load(-1, 5, 5), Check.INVALID);
        Check.changes("load(0, 5, 5)", GlacierHut::new, x -> x.load(0, 5, 5), 1);
        Check.changes("load(2, 5, 5)", GlacierHut::new, x -> x.load(2, 5, 5), 1);
        Check.refused("load(3, 5, 5)", GlacierHut::new, x -> x.load(3, 5, 5), Check.INVALID);
        Check.refused("load(1, -1, 5)", GlacierHut::new, x -> x.load(1, -1, 5), Check.INVALID);
        Check.refused("load(1, 0, 5)", GlacierHut::new, x -> x.load(1, 0, 5), Check.INVALID);
        Check.changes("load(1, 1, 5)", GlacierHut::new, x -> x.load(1, 1, 5), 1);
        Check.changes("load(1, 999, 5)", GlacierHut::new, x -> x.load(1, 999, 5), 1);
        Check.refused("load(1, 1000, 5)", GlacierHut::new, x -> x.load(1, 1000, 5), Check.INVALID);
        Check.refused("load(1, 5, -1)", GlacierHut::new, x -> x.load(1, 5, -1), Check.INVALID);
        Check.changes("load(1, 5, 0)", GlacierHut::new, x -> x.load(1, 5, 0), 1);
        Check.changes("load(1, 5, 365)", GlacierHut::new, x -> x.load(1, 5, 365), 1);
        Check.refused("load(1, 5, 366)", GlacierHut::new, x -> x.load(1, 5, 366), Check.INVALID);
    }

    private static void loadErrors() {
        Check.sentence("INVALID_ARGUMENT if an argument is out of range; LIMIT_REACHED if there are 6");
        Check.refused("load(3, 1, 0), the seventh", GlacierHutStoresEdges::fullPallet, x -> x.load(3, 1, 0),
            Check.INVALID);
        Check.refused("load(0, 0, 0), the seventh", GlacierHutStoresEdges::fullPallet, x -> x.load(0, 0, 0),
            Check.INVALID);
        Check.refused("load(0, 1, 366), the seventh", GlacierHutStoresEdges::fullPallet, x -> x.load(0, 1, 366),
            Check.INVALID);
        GlacierHut x = fullPallet();
        x.undo();
        Check.due("load, the sixth again", x.load(0, 1, 0), 6);
    }

    private static void flyErrors() {
        Check.sentence("NOT_POSSIBLE if the pallet is empty, it is a day of storm, or there were all flights");
        Check.refused("fly(), the pallet is empty", Check::stocked, GlacierHut::fly, Check.NOT_POSSIBLE);
        Check.refused("fly(), a day of storm", Check.behind(() -> lots(3, 2), x -> x.storm(0, 1)), GlacierHut::fly,
            Check.NOT_POSSIBLE);
        Check.refused("fly(), no flights", Check.behind(() -> lots(3, 2), x -> x.set(3, 1)), GlacierHut::fly,
            Check.NOT_POSSIBLE);
        Check.changes("fly()", () -> lots(3, 2), GlacierHut::fly, 2);
    }

    private static void flyErrorsInOrder() {
        Check.sentence("NOT_POSSIBLE rather than LIMIT_REACHED");
        Check.refused("fly(), a day of storm and 21 lots", Check.behind(() -> lots(20, 1), x -> x.storm(0, 1)),
            GlacierHut::fly, Check.NOT_POSSIBLE);
        Check.refused("fly(), no flights and 21 lots", Check.behind(() -> lots(20, 1), x -> x.set(3, 4)),
            GlacierHut::fly, Check.NOT_POSSIBLE);
        Check.refused("fly(), the pallet is empty and 20 lots", () -> lots(20, 0), GlacierHut::fly,
            Check.NOT_POSSIBLE);
    }

    private static void lotOfRanges() {
        Check.sentence("INVALID_ARGUMENT if kind or what is out of range or index is negative; NOT_FOUND");
        Check.onlyTells("lotOf(0, 0, 0)", Check::lived, x -> x.lotOf(0, 0, 0), 30);
        Check.onlyTells("lotOf(0, 0, 1)", Check::lived, x -> x.lotOf(0, 0, 1), 23);
        Check.refused("lotOf(0, 1, 0)", Check::lived, x -> x.lotOf(0, 1, 0), Check.NOT_FOUND);
        GlacierHut x = Check.with(5, 6, 0);
        Check.due("lotOf(-1, 0, 0)", x.lotOf(-1, 0, 0), Check.INVALID);
        Check.due("lotOf(3, 0, 0)", x.lotOf(3, 0, 0), Check.INVALID);
        Check.due("lotOf(0, -1, 0)", x.lotOf(0, -1, 0), Check.INVALID);
        Check.due("lotOf(0, 0, -1)", x.lotOf(0, 0, -1), Check.INVALID);
        Check.due("lotOf(0, 0, 2)", x.lotOf(0, 0, 2), Check.INVALID);
        Check.due("lotOf(0, 1, 1)", x.lotOf(0, 1, 1), Check.NOT_FOUND);
        Check.due("lotOf(2, 0, 0), none of the kind", x.lotOf(2, 0, 0), Check.NOT_FOUND);
        Check.due("lotOf(3, 5, 0), no kind and not so many", x.lotOf(3, 5, 0), Check.INVALID);
        Check.due("lotOf(0, 5, 2), not so many and no what", x.lotOf(0, 5, 2), Check.INVALID);
        Check.due("lotOf(2, -1, 0), none and a negative index", x.lotOf(2, -1, 0), Check.INVALID);
        Check.due("lotOf(0, the greatest int, 0)", x.lotOf(0, Integer.MAX_VALUE, 0), Check.NOT_FOUND);
        Check.due("lotOf(0, the least int, 0)", x.lotOf(0, Integer.MIN_VALUE, 0), Check.INVALID);
    }

    private static void lotOfTwenty() {
        Check.sentence("NOT_FOUND if there are not so many");
        GlacierHut x = new GlacierHut();
        x.set(3, 9);
        for (int i = 0; i < 20; i++) {
            x.load(1, i + 1, 40 - i);
            if (x.count(7) == 5) {
                x.fly();
            }
        }
        Check.due("lotOf(1, 0, 0), the last that came", x.lotOf(1, 0, 0), 20);
        Check.due("lotOf(1, 0, 1)", x.lotOf(1, 0, 1), 21);
        Check.due("lotOf(1, 19, 0), the first that came", x.lotOf(1, 19, 0), 1);
        Check.due("lotOf(1, 19, 1)", x.lotOf(1, 19, 1), 40);
        Check.due("lotOf(1, 20, 0)", x.lotOf(1, 20, 0), Check.NOT_FOUND);
        Check.due("lotOf(0, 0, 0)", x.lotOf(0, 0, 0), Check.NOT_FOUND);
    }

    private static void storeOfRanges() {
        Check.sentence("storeOf: kind: 0 to 2; what: 0 to 5");
        GlacierHut x = Check.with(5, 6, 7);
        Check.due("storeOf(-1, 0)", x.storeOf(-1, 0), Check.INVALID);
        Check.due("storeOf(0, 0)", x.storeOf(0, 0), 5);
        Check.due("storeOf(2, 0)", x.storeOf(2, 0), 7);
        Check.due("storeOf(3, 0)", x.storeOf(3, 0), Check.INVALID);
        Check.due("storeOf(0, -1)", x.storeOf(0, -1), Check.INVALID);
        Check.due("storeOf(0, 5)", x.storeOf(0, 5), 0);
        Check.due("storeOf(0, 6)", x.storeOf(0, 6), Check.INVALID);
        Check.refused("storeOf(3, 6)", Check::lived, y -> y.storeOf(3, 6), Check.INVALID);
        Check.onlyTells("storeOf(0, 5)", Check::lived, y -> y.storeOf(0, 5), 7);
    }

    private static void storeOfAmounts() {
        Check.sentence("brought by flights so far; used so far; spoilt so far; its amount on the pallet");
        GlacierHut x = new GlacierHut();
        x.set(3, 9);
        x.load(0, 10, 0);
        x.load(1, 3, 0);
        x.load(2, 2, 0);
        Check.due("storeOf(0, 1), on the pallet", x.storeOf(0, 1), 0);
        Check.due("storeOf(0, 5), on the pallet", x.storeOf(0, 5), 10);
        x.fly();
        Check.due("storeOf(0, 1)", x.storeOf(0, 1), 10);
        Check.due("storeOf(0, 5)", x.storeOf(0, 5), 0);
        x.book(3, 0, 1);
        x.sleep(1);
        Check.due("storeOf(0, 2), cut, a portion each", x.storeOf(0, 2), 3);
        Check.due("storeOf(0, 3), what was left", x.storeOf(0, 3), 7);
        Check.due("storeOf(1, 2), all of it", x.storeOf(1, 2), 3);
        Check.due("storeOf(1, 3), none was left", x.storeOf(1, 3), 0);
        Check.due("storeOf(2, 2)", x.storeOf(2, 2), 1);
        Check.due("storeOf(2, 3)", x.storeOf(2, 3), 1);
        x.load(0, 4, 0);
        x.fly();
        Check.due("storeOf(0, 1), two flights", x.storeOf(0, 1), 14);
        x.sleep(1);
        Check.due("storeOf(0, 3), two lots", x.storeOf(0, 3), 11);
        Check.due("storeOf(0, 0)", x.storeOf(0, 0), 0);
        Check.due("storeOf(0, 4)", x.storeOf(0, 4), 0);
    }

    private static void stockIsAllLots() {
        Check.sentence("What is the stock of a kind: all that its lots have");
        GlacierHut x = new GlacierHut();
        x.set(3, 9);
        for (int i = 0; i < 20; i++) {
            x.load(2, 999, 365);
            if (x.count(7) == 5) {
                Check.due("storeOf(2, 5)", x.storeOf(2, 5), 4995);
                x.fly();
            }
        }
        Check.due("storeOf(2, 0)", x.storeOf(2, 0), 19980);
        Check.due("storeOf(2, 1)", x.storeOf(2, 1), 19980);
        Check.due("storeOf(2, 4)", x.storeOf(2, 4), 20);
        for (int i = 0; i < 6; i++) {
            x.load(2, 999, 365);
        }
        Check.due("storeOf(2, 5)", x.storeOf(2, 5), 5994);
        Check.due("storeOf(2, 0), the pallet does not count", x.storeOf(2, 0), 19980);
        Check.due("storeOf(0, 0), another kind", x.storeOf(0, 0), 0);
    }
}
