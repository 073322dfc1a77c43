/** The edges in the sentences on a night: "A night" of the Terms, and the promises 8, 12 and 13. */
public final class GlacierHutNightEdges {
    private static final int BOOKED = 0;
    private static final int STAYS = 1;
    private static final int GONE = 2;
    private static final int LAPSED = 3;

    public static void main(String[] args) {
        partiesGoWhenTheyHaveSlept();
        nobodyGoesInAStorm();
        partiesComeOnTheirDay();
        lateParties();
        lapseForTheirDays();
        lapseOnADayOfStorm();
        bedsForAllOfAParty();
        partiesComeByNumbers();
        bedsOfThoseWhoGo();
        bedsOfThoseWhoAreKept();
        soupIsScarce();
        soupIsNeverScarce();
        soupIsScarceAtMost();
        breadForEachGuest();
        hungryGuests();
        hungryAtMostAll();
        noSupperWithoutGuests();
        gasForBegunFours();
        gasInAStorm();
        coldNights();
        sleptAndKept();
        spoilBehindTheLastDay();
        nextDay();
        sleepRanges();
        sleepUntilTheLastDay();
        sleepCountsItsNights();
        partyOfRanges();
        partyOfDayOfComing();
        countRanges();
        countValues();
        Check.end();
    }

    private static void statusDue(GlacierHut x, int party, int status) {
        Check.due("partyOf(" + party + ", 3) on the day " + x.count(4), x.partyOf(party, 3), status);
    }

    private static void partiesGoWhenTheyHaveSlept() {
        Check.sentence("parties that stay, and have slept as many nights as they have booked or more, are gone");
        GlacierHut x = Check.stocked();
        x.book(1, 0, 1);
        x.book(1, 0, 9);
        x.sleep(1);
        statusDue(x, 0, STAYS);
        x.sleep(1);
        statusDue(x, 0, GONE);
        x.sleep(7);
        Check.due("partyOf(1, 4)", x.partyOf(1, 4), 9);
        statusDue(x, 1, STAYS);
        x.sleep(1);
        statusDue(x, 1, GONE);
        Check.due("partyOf(1, 4)", x.partyOf(1, 4), 9);
        Check.due("count(10)", x.count(10), 10);
    }

    private static void nobodyGoesInAStorm() {
        Check.sentence("If it is no day of storm");
        GlacierHut x = Check.stocked();
        x.book(2, 0, 1);
        x.storm(1, 2);
        x.sleep(3);
        statusDue(x, 0, STAYS);
        Check.due("partyOf(0, 4)", x.partyOf(0, 4), 3);
        x.sleep(1);
        statusDue(x, 0, GONE);
        Check.due("partyOf(0, 4), it went with more nights than it had booked", x.partyOf(0, 4), 3);
        x = Check.stocked();
        x.book(2, 0, 2);
        x.storm(1, 1);
        x.sleep(2);
        Check.due("goneOn(0), a storm in its nights keeps it no longer", x.goneOn(0), 2);
        x.sleep(1);
        statusDue(x, 0, GONE);
    }

    private static void partiesComeOnTheirDay() {
        Check.sentence("each booked party whose day of coming is this one or was before");
        GlacierHut x = Check.stocked();
        x.book(1, 0, 1);
        x.book(1, 1, 1);
        x.book(1, 2, 1);
        statusDue(x, 0, BOOKED);
        x.sleep(1);
        statusDue(x, 0, STAYS);
        statusDue(x, 1, BOOKED);
        x.sleep(1);
        statusDue(x, 1, STAYS);
        statusDue(x, 2, BOOKED);
        x.sleep(1);
        statusDue(x, 2, STAYS);
    }

    private static void lateParties() {
        Check.sentence("Otherwise, if it is a day of storm, it goes on being booked. Otherwise it stays");
        GlacierHut x = Check.stocked();
        x.book(2, 0, 3);
        x.storm(0, 2);
        x.sleep(2);
        statusDue(x, 0, BOOKED);
        Check.due("partyOf(0, 5)", x.partyOf(0, 5), Check.NOT_FOUND);
        x.sleep(1);
        statusDue(x, 0, STAYS);
        Check.due("partyOf(0, 5), its day of coming was before", x.partyOf(0, 5), 2);
        Check.due("partyOf(0, 1), the day that was booked", x.partyOf(0, 1), 0);
        x.sleep(2);
        statusDue(x, 0, STAYS);
        Check.due("partyOf(0, 4), it sleeps all its nights", x.partyOf(0, 4), 3);
        x.sleep(1);
        statusDue(x, 0, GONE);
        Check.due("partyOf(0, 6)", x.partyOf(0, 6), 0);
    }

    private static void lapseForTheirDays() {
        Check.sentence("if its day of coming plus its nights is this day or was before, it is lapsed");
        GlacierHut x = Check.stocked();
        x.book(1, 1, 1);
        x.book(1, 1, 2);
        x.book(1, 1, 3);
        x.storm(1, 2);
        x.sleep(2);
        statusDue(x, 0, BOOKED);
        x.sleep(1);
        statusDue(x, 0, LAPSED);
        statusDue(x, 1, BOOKED);
        x.sleep(1);
        statusDue(x, 1, LAPSED);
        statusDue(x, 2, STAYS);
        Check.due("partyOf(2, 5)", x.partyOf(2, 5), 3);
    }

    private static void lapseOnADayOfStorm() {
        Check.sentence("it is lapsed. Otherwise, if it is a day of storm");
        GlacierHut x = Check.stocked();
        x.book(1, 0, 2);
        x.book(1, 0, 9);
        x.storm(0, 10);
        x.sleep(2);
        statusDue(x, 0, BOOKED);
        x.sleep(1);
        statusDue(x, 0, LAPSED);
        x.sleep(6);
        statusDue(x, 1, BOOKED);
        x.sleep(1);
        statusDue(x, 1, LAPSED);
    }

    private static void bedsForAllOfAParty() {
        Check.sentence("if there are beds for all of it besides those who stay already");
        GlacierHut x = Check.stocked();
        x.book(4, 0, 3);
        x.book(3, 1, 2);
        x.sleep(1);
        Check.sentence("and is lapsed if there are not");
        GlacierHut y = Check.stocked();
        y.book(4, 0, 3);
        y.book(3, 1, 2);
        y.sleep(1);
        x.set(0, 7);
        y.set(0, 6);
        x.sleep(1);
        y.sleep(1);
        statusDue(x, 1, STAYS);
        statusDue(y, 1, LAPSED);
        Check.due("partyOf(1, 5), it did not come", y.partyOf(1, 5), Check.NOT_FOUND);
        Check.due("count(3)", y.count(3), 4);
        GlacierHut z = Check.stocked();
        z.book(6, 0, 1);
        z.set(0, 6);
        z.sleep(1);
        statusDue(z, 0, STAYS);
        z = Check.stocked();
        z.book(6, 0, 1);
        z.set(0, 5);
        z.sleep(1);
        statusDue(z, 0, LAPSED);
        z = Check.stocked();
        z.book(6, 0, 2);
        z.book(1, 1, 1);
        z.sleep(1);
        z.set(0, 1);
        z.sleep(1);
        Check.due("partyOf(0, 3), beds are fewer than those who stay", z.partyOf(0, 3), STAYS);
        statusDue(z, 1, LAPSED);
    }

    private static void partiesComeByNumbers() {
        Check.sentence("By numbers, each booked party");
        GlacierHut x = Check.stocked();
        x.book(4, 1, 1);
        x.book(5, 0, 3);
        x.book(1, 1, 1);
        x.book(2, 1, 1);
        x.storm(0, 1);
        x.set(0, 7);
        x.sleep(2);
        statusDue(x, 0, STAYS);
        Check.due("partyOf(1, 3), 4 and 5 are more than 7, though its day was earlier", x.partyOf(1, 3), LAPSED);
        statusDue(x, 2, STAYS);
        statusDue(x, 3, STAYS);
        Check.due("count(3), all beds", x.count(3), 7);
    }

    private static void bedsOfThoseWhoGo() {
        Check.sentence("are gone. By numbers, each booked party");
        GlacierHut x = Check.stocked();
        x.set(0, 6);
        x.book(6, 0, 1);
        Check.due("book(6, 1, 1), they go ahead of those who come", x.book(6, 1, 1), 1);
        x.sleep(2);
        statusDue(x, 0, GONE);
        statusDue(x, 1, STAYS);
    }

    private static void bedsOfThoseWhoAreKept() {
        Check.sentence("besides those who stay already");
        GlacierHut x = Check.stocked();
        x.book(6, 0, 1);
        x.book(6, 2, 2);
        x.set(0, 6);
        x.storm(1, 2);
        x.sleep(3);
        statusDue(x, 0, STAYS);
        statusDue(x, 1, BOOKED);
        x.sleep(1);
        statusDue(x, 0, GONE);
        Check.due("partyOf(1, 3), on the day on which the kept ones go", x.partyOf(1, 3), STAYS);
    }

    /** What the first supper takes of the soup, with bread and gas enough. */
    private static int eaten(int soup, int guests, int ration, int scarce) {
        GlacierHut x = Check.with(soup, 99, 99);
        x.set(2, 0);
        x.set(1, 1);
        Check.due("book", x.book(guests, 0, 1), 0);
        x.set(1, ration);
        x.set(2, scarce);
        x.sleep(1);
        Check.due("count(11), " + soup + " portions of soup", x.count(11), x.storeOf(0, 2) < guests * ration
            && x.storeOf(0, 0) > 0 ? 1 : 0);
        return x.storeOf(0, 2);
    }

    private static void soupIsScarce() {
        Check.sentence("but 1, if the stock of soup is less than setting 2 times the guests times the full ration");
        Check.due("soup of 23, 4 guests, 2 portions, 3 times", eaten(23, 4, 2, 3), 4);
        Check.due("soup of 24, 4 guests, 2 portions, 3 times", eaten(24, 4, 2, 3), 8);
        Check.due("soup of 25, 4 guests, 2 portions, 3 times", eaten(25, 4, 2, 3), 8);
        Check.due("soup of 14, 5 guests, 3 portions, once", eaten(14, 5, 3, 1), 5);
        Check.due("soup of 15, 5 guests, 3 portions, once", eaten(15, 5, 3, 1), 15);
    }

    private static void soupIsNeverScarce() {
        Check.sentence("how scarce soup may get (0 to 9)");
        Check.due("soup of 5, 4 guests, 2 portions, 0 times", eaten(5, 4, 2, 0), 5);
        Check.due("soup of 8, 4 guests, 2 portions, 0 times", eaten(8, 4, 2, 0), 8);
        Check.due("soup of 8, 4 guests, 2 portions, once", eaten(8, 4, 2, 1), 8);
        Check.due("soup of 7, 4 guests, 2 portions, once", eaten(7, 4, 2, 1), 4);
    }

    private static void soupIsScarceAtMost() {
        Check.sentence("the full ration (1 to 3)");
        Check.due("soup of 161, 6 guests, 3 portions, 9 times", eaten(161, 6, 3, 9), 6);
        Check.due("soup of 162, 6 guests, 3 portions, 9 times", eaten(162, 6, 3, 9), 18);
        GlacierHut x = Check.with(4, 99, 99);
        x.book(4, 0, 1);
        x.set(1, 1);
        x.set(2, 9);
        x.sleep(1);
        Check.due("count(11), a ration of 1 is not less than the full one", x.count(11), 0);
        Check.due("storeOf(0, 2)", x.storeOf(0, 2), 4);
    }

    private static void breadForEachGuest() {
        Check.sentence("for each portion of bread that there is not, a portion of soup more is needed");
        int[] breads = {0, 1, 4, 5, 6};
        int[] soups = {15, 14, 11, 10, 10};
        for (int i = 0; i < breads.length; i++) {
            GlacierHut x = Check.with(99, breads[i], 99);
            x.book(5, 0, 1);
            Check.due("sleep(1)", x.sleep(1), 0);
            Check.due("storeOf(0, 2), bread being " + breads[i], x.storeOf(0, 2), soups[i]);
            Check.due("storeOf(1, 2), bread being " + breads[i], x.storeOf(1, 2), Math.min(5, breads[i]));
        }
    }

    /** A hut with so much soup and bread, guests that have come, and a ration of 2 that is never cut. */
    private static GlacierHut supper(int soup, int bread, int guests) {
        GlacierHut x = new GlacierHut();
        x.set(3, 9);
        x.set(2, 0);
        x.load(0, 99, 0);
        x.load(1, 99, 0);
        x.load(2, 99, 99);
        x.fly();
        x.book(guests, 0, 1);
        x.storm(1, 9);
        x.sleep(1);
        x.clear(1);
        if (soup > 0) {
            x.load(0, soup, 99);
        }
        if (bread > 0) {
            x.load(1, bread, 99);
        }
        x.fly();
        x.storm(1, 1);
        return x;
    }

    private static void hungryGuests() {
        Check.sentence("If there is not so much soup, all of it is eaten, and as many guests are hungry as are missing");
        int[] soups = {8, 7, 6, 5, 4};
        for (int i = 0; i < soups.length; i++) {
            GlacierHut x = supper(soups[i], 4, 4);
            Check.due("sleep(1), soup being " + soups[i], x.sleep(1), i);
            Check.due("storeOf(0, 0), soup being " + soups[i], x.storeOf(0, 0), 0);
            Check.due("storeOf(0, 4), soup being " + soups[i], x.storeOf(0, 4), 0);
            Check.due("count(8), soup being " + soups[i], x.count(8), i);
        }
        GlacierHut x = supper(9, 3, 4);
        Check.due("sleep(1), just enough for bread too", x.sleep(1), 0);
        x = supper(8, 3, 4);
        Check.due("sleep(1), one is missing for bread", x.sleep(1), 1);
    }

    private static void hungryAtMostAll() {
        Check.sentence("as many guests are hungry as portions are missing, but at most all");
        Check.due("sleep(1), 4 of 8 are missing", supper(4, 4, 4).sleep(1), 4);
        Check.due("sleep(1), 5 of 8 are missing", supper(3, 4, 4).sleep(1), 4);
        Check.due("sleep(1), 8 of 8 are missing", supper(0, 4, 4).sleep(1), 4);
        Check.due("sleep(1), 12 of 12 are missing", supper(0, 0, 4).sleep(1), 4);
        GlacierHut x = supper(0, 9, 4);
        x.sleep(1);
        Check.due("storeOf(1, 2), bread is eaten without soup", x.storeOf(1, 2), 8);
        Check.due("storeOf(1, 0)", x.storeOf(1, 0), 5);
    }

    private static void noSupperWithoutGuests() {
        Check.sentence("Supper for all guests who stay");
        GlacierHut x = Check.with(1, 1, 1);
        x.storm(1, 1);
        Check.due("sleep(3)", x.sleep(3), 0);
        for (int kind = 0; kind < 3; kind++) {
            Check.due("storeOf(" + kind + ", 2)", x.storeOf(kind, 2), 0);
        }
        for (int what = 8; what <= 11; what++) {
            Check.due("count(" + what + ")", x.count(what), 0);
        }
        x = new GlacierHut();
        x.storm(0, 2);
        Check.due("sleep(2), there is nothing", x.sleep(2), 0);
        Check.due("count(9), nobody is cold", x.count(9), 0);
        Check.due("count(11)", x.count(11), 0);
    }

    /** What the gas of the first night is for so many guests. */
    private static int gas(int guests) {
        GlacierHut x = Check.stocked();
        x.set(0, 40);
        for (int left = guests; left > 0; left -= 6) {
            x.book(Math.min(6, left), 0, 1);
        }
        x.sleep(1);
        Check.due("count(3)", x.count(3), guests);
        Check.due("count(9)", x.count(9), 0);
        return x.storeOf(2, 2);
    }

    private static void gasForBegunFours() {
        Check.sentence("Gas: one unit for each 4 guests, begun ones counting");
        int[] guests = {0, 1, 3, 4, 5, 7, 8, 9, 12, 13, 36, 37, 40};
        int[] units = {0, 1, 1, 1, 2, 2, 2, 3, 3, 4, 9, 10, 10};
        for (int i = 0; i < guests.length; i++) {
            Check.due("gas for " + guests[i] + " guests", gas(guests[i]), units[i]);
        }
    }

    private static void gasInAStorm() {
        Check.sentence("and one more on a day of storm (if there are guests)");
        GlacierHut x = Check.stocked();
        x.book(4, 1, 1);
        x.book(1, 1, 1);
        x.storm(0, 1);
        x.storm(2, 1);
        x.sleep(1);
        Check.due("storeOf(2, 2), a storm without guests", x.storeOf(2, 2), 0);
        x.sleep(1);
        Check.due("storeOf(2, 2), five guests", x.storeOf(2, 2), 2);
        x.sleep(1);
        Check.due("storeOf(2, 2), five guests in a storm", x.storeOf(2, 2), 5);
        x.sleep(1);
        Check.due("storeOf(2, 2), they are gone", x.storeOf(2, 2), 5);
    }

    private static void coldNights() {
        Check.sentence("If there is not so much, all of it is used, and the night is cold");
        int[] units = {3, 4, 5, 6};
        int[] cold = {1, 1, 0, 0};
        int[] used = {3, 4, 5, 5};
        for (int i = 0; i < units.length; i++) {
            GlacierHut x = Check.with(99, 99, units[i]);
            x.book(5, 0, 1);
            x.storm(1, 1);
            x.sleep(2);
            Check.due("count(9), gas being " + units[i], x.count(9), cold[i]);
            Check.due("storeOf(2, 2), gas being " + units[i], x.storeOf(2, 2), used[i]);
            Check.due("count(8), gas being " + units[i], x.count(8), 0);
        }
        GlacierHut x = Check.with(99, 99, 1);
        x.book(1, 0, 1);
        x.storm(1, 3);
        x.sleep(4);
        Check.due("count(9), nights without any gas are cold", x.count(9), 3);
    }

    private static void sleptAndKept() {
        Check.sentence("Each party that stays has slept a night more");
        GlacierHut x = Check.with(9, 9, 2);
        x.book(1, 0, 2);
        x.storm(2, 2);
        Check.due("partyOf(0, 4)", x.partyOf(0, 4), 0);
        x.sleep(2);
        Check.due("partyOf(0, 4)", x.partyOf(0, 4), 2);
        Check.due("partyOf(0, 6), as many as its nights", x.partyOf(0, 6), 0);
        x.sleep(1);
        Check.due("partyOf(0, 6), one more, a cold one", x.partyOf(0, 6), 1);
        x.sleep(1);
        Check.due("partyOf(0, 6)", x.partyOf(0, 6), 2);
        x.sleep(1);
        Check.due("partyOf(0, 6), gone", x.partyOf(0, 6), 2);
        Check.due("partyOf(0, 4), gone", x.partyOf(0, 4), 4);
    }

    private static void spoilBehindTheLastDay() {
        Check.sentence("Lots whose last day is this one spoil (what is left of them)");
        GlacierHut x = new GlacierHut();
        x.load(0, 5, 0);
        x.load(0, 6, 1);
        x.load(1, 7, 2);
        x.load(2, 1, 0);
        x.load(2, 3, 1);
        x.storm(1, 1);
        x.fly();
        x.book(1, 0, 1);
        x.sleep(1);
        Check.due("storeOf(0, 3), three of the first lot", x.storeOf(0, 3), 3);
        Check.due("storeOf(2, 3), the first lot was used up", x.storeOf(2, 3), 0);
        Check.due("storeOf(2, 4)", x.storeOf(2, 4), 1);
        x.sleep(1);
        Check.due("storeOf(0, 3), four of the second, also in a storm", x.storeOf(0, 3), 7);
        Check.due("storeOf(2, 3)", x.storeOf(2, 3), 1);
        Check.due("storeOf(1, 3), it is good on the day 2", x.storeOf(1, 3), 0);
        x.sleep(1);
        Check.due("storeOf(1, 3)", x.storeOf(1, 3), 5);
        Check.due("storeOf(1, 0)", x.storeOf(1, 0), 0);
    }

    private static void nextDay() {
        Check.sentence("It is the next day");
        GlacierHut x = new GlacierHut();
        x.storm(1, 1);
        x.sleep(1);
        Check.due("count(4)", x.count(4), 1);
        Check.due("count(5)", x.count(5), 1);
        x.sleep(1);
        Check.due("count(4), a storm goes by too", x.count(4), 2);
        Check.due("count(5)", x.count(5), 0);
    }

    private static void sleepRanges() {
        Check.sentence("nights: 1 to 60");
        Check.refused("sleep(-1)", Check::lived, x -> x.sleep(-1), Check.INVALID);
        Check.refused("sleep(0)", Check::lived, x -> x.sleep(0), Check.INVALID);
        Check.refused("sleep(61)", Check::lived, x -> x.sleep(61), Check.INVALID);
        Check.refused("sleep(the greatest int)", Check::lived, x -> x.sleep(Integer.MAX_VALUE), Check.INVALID);
        Check.changes("sleep(1)", Check::stocked, x -> x.sleep(1), 0);
        Check.changes("sleep(60)", Check::stocked, x -> x.sleep(60), 0);
    }

    private static GlacierHut late(int day) {
        GlacierHut x = Check.stocked();
        Check.sleepUntil(x, day);
        return x;
    }

    private static void sleepUntilTheLastDay() {
        Check.sentence("LIMIT_REACHED if the day would be above 365");
        Check.due("sleep(60) on the day 305", late(305).sleep(60), 0);
        Check.refused("sleep(60) on the day 306", () -> late(306), x -> x.sleep(60), Check.LIMIT);
        Check.due("sleep(1) on the day 364", late(364).sleep(1), 0);
        Check.refused("sleep(2) on the day 364", () -> late(364), x -> x.sleep(2), Check.LIMIT);
        Check.refused("sleep(1) on the day 365", () -> late(365), x -> x.sleep(1), Check.LIMIT);
        Check.sentence("INVALID_ARGUMENT rather than LIMIT_REACHED");
        Check.refused("sleep(61) on the day 365", () -> late(365), x -> x.sleep(61), Check.INVALID);
        Check.refused("sleep(0) on the day 365", () -> late(365), x -> x.sleep(0), Check.INVALID);
        Check.refused("sleep(the greatest int) on the day 365", () -> late(365), x -> x.sleep(Integer.MAX_VALUE),
            Check.INVALID);
    }

    private static void sleepCountsItsNights() {
        Check.sentence("Returns how many guests are hungry in them (each night counting)");
        GlacierHut x = Check.with(4, 4, 99);
        x.book(4, 0, 1);
        x.storm(1, 3);
        Check.due("sleep(1)", x.sleep(1), 0);
        Check.due("sleep(1)", x.sleep(1), 4);
        Check.due("sleep(2), both nights, and not the one before", x.sleep(2), 8);
        Check.due("count(8)", x.count(8), 12);
        Check.due("sleep(5), nobody is there", x.sleep(5), 0);
    }

    private static void partyOfRanges() {
        Check.sentence("partyOf: number of the party; what: 0 to 6");
        GlacierHut x = Check.full();
        Check.due("partyOf(-1, 0)", x.partyOf(-1, 0), Check.INVALID);
        Check.due("partyOf(0, 0)", x.partyOf(0, 0), 1);
        Check.due("partyOf(15, 1)", x.partyOf(15, 1), 15);
        Check.due("partyOf(16, 0), behind a booking that was tried", x.book(1, 20, 1) + x.partyOf(16, 0),
            Check.LIMIT + Check.INVALID);
        Check.due("partyOf(17, 0)", x.partyOf(17, 0), Check.INVALID);
        Check.due("partyOf(0, -1)", x.partyOf(0, -1), Check.INVALID);
        Check.due("partyOf(0, 6)", x.partyOf(0, 6), 0);
        Check.due("partyOf(0, 7)", x.partyOf(0, 7), Check.INVALID);
        Check.sentence("If there is no party with a certain number, this is INVALID_ARGUMENT");
        x = Check.lived();
        Check.due("partyOf(4, 0)", x.partyOf(4, 0), Check.INVALID);
        Check.due("partyOf(4, 5), none, and it did not come", x.partyOf(4, 5), Check.INVALID);
        Check.due("partyOf(3, 0)", x.partyOf(3, 0), 3);
        Check.refused("partyOf(4, 5)", Check::lived, y -> y.partyOf(4, 5), Check.INVALID);
        Check.refused("partyOf(3, 5)", Check::lived, y -> y.partyOf(3, 5), Check.NOT_FOUND);
        Check.onlyTells("partyOf(2, 3)", Check::lived, y -> y.partyOf(2, 3), STAYS);
    }

    private static void partyOfDayOfComing() {
        Check.sentence("NOT_FOUND for 5 if it did not come");
        GlacierHut x = Check.stocked();
        x.book(1, 0, 1);
        x.book(1, 0, 1);
        Check.due("partyOf(0, 5), booked", x.partyOf(0, 5), Check.NOT_FOUND);
        x.cancel(1);
        Check.due("partyOf(1, 5), lapsed", x.partyOf(1, 5), Check.NOT_FOUND);
        x.sleep(1);
        Check.due("partyOf(0, 5), it came on the day 0", x.partyOf(0, 5), 0);
        x.sleep(1);
        Check.due("partyOf(0, 5), gone", x.partyOf(0, 5), 0);
        Check.due("partyOf(1, 5), lapsed", x.partyOf(1, 5), Check.NOT_FOUND);
    }

    private static void countRanges() {
        Check.sentence("INVALID_ARGUMENT if what is out of range");
        GlacierHut x = Check.lived();
        int[] out = {-1, 15, 19, 24, Integer.MIN_VALUE, Integer.MIN_VALUE + 19, Integer.MIN_VALUE + 20,
            Integer.MIN_VALUE + 23, Integer.MAX_VALUE};
        for (int what : out) {
            Check.due("count(" + what + ")", x.count(what), Check.INVALID);
        }
        int[] in = {0, 14, 20, 23};
        int[] values = {4, 1, 12, 9};
        for (int i = 0; i < in.length; i++) {
            Check.due("count(" + in[i] + ")", x.count(in[i]), values[i]);
        }
        Check.refused("count(15)", Check::lived, y -> y.count(15), Check.INVALID);
        Check.onlyTells("count(4)", Check::lived, y -> y.count(4), 4);
    }

    private static void countValues() {
        Check.sentence("Returns a number");
        GlacierHut x = Check.lived();
        // hungry: 3 on the day 2; cold: the days 1 and 2; cut: the days 0 to 2; guests' nights: 3 of 4, and 5
        int[] want = {4, 1, 1, 5, 4, 0, 2, 2, 3, 2, 17, 3, 4, 10, 1};
        for (int what = 0; what < want.length; what++) {
            Check.due("count(" + what + ")", x.count(what), want[what]);
        }
        int[] settings = {12, 2, 3, 9};
        for (int i = 0; i < settings.length; i++) {
            Check.due("count(" + (20 + i) + ")", x.count(20 + i), settings[i]);
        }
        x.sleep(1);
        Check.due("count(5)", x.count(5), 1);
        statusDue(x, 0, GONE);
        statusDue(x, 1, LAPSED);
    }
}
