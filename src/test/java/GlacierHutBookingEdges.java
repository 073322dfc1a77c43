/**
 * The edges in the sentences on parties, storms and settings: "Parties", "Bookings" and "Settings" of
 * the Terms, and the promises 4, 5, 6, 7, 9, 14, 15 and 16.
 */
public final class GlacierHutBookingEdges {
    public static void main(String[] args) {
        bookRanges();
        bookDays();
        bookBehindTheLastDay();
        wantOfBeds();
        wantOfBedsAtTheSettingsEnds();
        wantOfBedsOfAnother();
        hungryGuest();
        hungryGuestOfAnother();
        coldNight();
        coldNightInAStorm();
        nightsFromNowOn();
        nightsWithoutParties();
        stormsThatAreTold();
        partyThatNeverComes();
        storesInTheHut();
        settingsAsTheyAre();
        sixteenParties();
        bookErrorsInOrder();
        cancelRanges();
        cancelOnlyBooked();
        stormRanges();
        stormDays();
        stormLimit();
        stormLimitFromThisDayOn();
        stormErrorsInOrder();
        clearRanges();
        clearAnswers();
        setRanges();
        goneOnErrors();
        goneOnDays();
        goneOnBeyondTheYear();
        outOnErrors();
        outOnDays();
        outOnEmptyStock();
        outOnUntilNoParty();
        mostRanges();
        mostSizes();
        mostLimit();
        Check.end();
    }

    private static void bookRanges() {
        Check.sentence("size: 1 to 6; nights: 1 to 9");
        Check.refused("book(-1, 0, 1)", Check::stocked, x -> x.book(-1, 0, 1), Check.INVALID);
        Check.refused("book(0, 0, 1)", Check::stocked, x -> x.book(0, 0, 1), Check.INVALID);
        Check.changes("book(1, 0, 1)", Check::stocked, x -> x.book(1, 0, 1), 0);
        Check.changes("book(6, 0, 1)", Check::stocked, x -> x.book(6, 0, 1), 0);
        Check.refused("book(7, 0, 1)", Check::stocked, x -> x.book(7, 0, 1), Check.INVALID);
        Check.refused("book(1, 0, -1)", Check::stocked, x -> x.book(1, 0, -1), Check.INVALID);
        Check.refused("book(1, 0, 0)", Check::stocked, x -> x.book(1, 0, 0), Check.INVALID);
        Check.changes("book(1, 0, 9)", Check::stocked, x -> x.book(1, 0, 9), 0);
        Check.refused("book(1, 0, 10)", Check::stocked, x -> x.book(1, 0, 10), Check.INVALID);
    }

    private static void bookDays() {
        Check.sentence("day: this day to 365: the day of coming");
        Check.Start later = Check.behind(Check::stocked, x -> x.sleep(3));
        Check.refused("book(1, -1, 1)", Check::stocked, x -> x.book(1, -1, 1), Check.INVALID);
        Check.refused("book(1, 2, 1) on the day 3", later, x -> x.book(1, 2, 1), Check.INVALID);
        Check.changes("book(1, 3, 1) on the day 3", later, x -> x.book(1, 3, 1), 0);
        Check.changes("book(1, 365, 1)", later, x -> x.book(1, 365, 1), 0);
        Check.refused("book(1, 366, 1)", later, x -> x.book(1, 366, 1), Check.INVALID);
        Check.refused("book(1, the greatest int, 1)", later, x -> x.book(1, Integer.MAX_VALUE, 1), Check.INVALID);
        Check.refused("book(1, the least int, 1)", later, x -> x.book(1, Integer.MIN_VALUE, 1), Check.INVALID);
    }

    private static void bookBehindTheLastDay() {
        Check.sentence("the nights from now on, as long as a party stays or is booked");
        GlacierHut x = Check.stocked();
        Check.due("book(1, 365, 1), good on the day 365", x.book(1, 365, 1), 0);
        Check.due("book(1, 365, 2), spoilt on the day 366", x.book(1, 365, 2), Check.NOT_POSSIBLE);
        x = new GlacierHut();
        Check.sleepUntil(x, 365);
        x.load(0, 99, 8);
        x.load(1, 99, 8);
        x.load(2, 99, 8);
        x.fly();
        Check.due("book(1, 365, 9), good on the day 373", x.book(1, 365, 9), 0);
        Check.due("goneOn(0)", x.goneOn(0), 374);
        x = new GlacierHut();
        Check.sleepUntil(x, 365);
        x.load(0, 99, 8);
        x.load(1, 99, 8);
        x.load(2, 99, 7);
        x.fly();
        Check.due("book(1, 365, 9), gas spoilt on the day 373", x.book(1, 365, 9), Check.NOT_POSSIBLE);
    }

    private static void wantOfBeds() {
        Check.sentence("would have no party that is lapsed for want of beds");
        GlacierHut x = Check.stocked();
        x.book(6, 3, 2);
        Check.due("book(6, 3, 1), all beds", x.book(6, 3, 1), 1);
        Check.due("book(1, 3, 1), one guest too many", x.book(1, 3, 1), Check.NOT_POSSIBLE);
        Check.due("book(1, 2, 2), another one would lapse", x.book(1, 2, 2), Check.NOT_POSSIBLE);
        Check.due("book(6, 2, 1)", x.book(6, 2, 1), 2);
        Check.due("book(6, 4, 1)", x.book(6, 4, 1), 3);
        Check.due("book(1, 4, 1)", x.book(1, 4, 1), Check.NOT_POSSIBLE);
        Check.due("book(6, 5, 1)", x.book(6, 5, 1), 4);
        Check.due("cancel(1)", x.cancel(1), 4);
        Check.due("book(6, 3, 1), for the lapsed one", x.book(6, 3, 1), 5);
    }

    private static void wantOfBedsAtTheSettingsEnds() {
        Check.sentence("beds (1 to 40)");
        GlacierHut x = Check.stocked();
        x.set(0, 1);
        Check.due("book(2, 0, 1), one bed", x.book(2, 0, 1), Check.NOT_POSSIBLE);
        Check.due("book(1, 0, 1), one bed", x.book(1, 0, 1), 0);
        Check.due("book(1, 0, 1), none is left", x.book(1, 0, 1), Check.NOT_POSSIBLE);
        x = Check.stocked();
        x.set(0, 40);
        for (int i = 0; i < 6; i++) {
            Check.due("book(6, 0, 1)", x.book(6, 0, 1), i);
        }
        Check.due("book(5, 0, 1), 41 guests", x.book(5, 0, 1), Check.NOT_POSSIBLE);
        Check.due("book(4, 0, 1), 40 guests", x.book(4, 0, 1), 6);
        Check.due("book(1, 0, 1), 41 guests", x.book(1, 0, 1), Check.NOT_POSSIBLE);
    }

    private static void wantOfBedsOfAnother() {
        Check.sentence("with it and all others");
        GlacierHut x = Check.stocked();
        x.book(4, 5, 1);
        x.set(0, 3);
        Check.due("book(1, 20, 1), another one has no beds", x.book(1, 20, 1), Check.NOT_POSSIBLE);
        x.set(0, 4);
        Check.due("book(1, 20, 1), it has", x.book(1, 20, 1), 1);
        x = Check.stocked();
        x.book(4, 0, 3);
        x.sleep(1);
        x.set(0, 1);
        Check.due("book(1, 2, 1), who stays keeps the beds", x.book(1, 2, 1), Check.NOT_POSSIBLE);
        Check.due("book(1, 3, 1), but does not lapse", x.book(1, 3, 1), 1);
        x = Check.stocked();
        x.book(6, 0, 1);
        x.book(6, 0, 1);
        x.book(6, 1, 1);
        x.storm(1, 1);
        Check.due("book(6, 1, 2), the kept ones are gone on the day 2", x.book(6, 1, 2), 3);
    }

    private static void hungryGuest() {
        Check.sentence("no hungry guest");
        Check.due("book(3, 0, 1), 6 of 6 portions", unscarce(6, 3, 9).book(3, 0, 1), 0);
        Check.due("book(3, 0, 1), 6 of 5 portions", unscarce(5, 3, 9).book(3, 0, 1), Check.NOT_POSSIBLE);
        Check.due("book(3, 0, 1), 7 of 7 portions, bread is short", unscarce(7, 2, 9).book(3, 0, 1), 0);
        Check.due("book(3, 0, 1), 7 of 6 portions, bread is short", unscarce(6, 2, 9).book(3, 0, 1),
            Check.NOT_POSSIBLE);
        Check.due("book(3, 0, 2), 12 of 12 portions", unscarce(12, 6, 9).book(3, 0, 2), 0);
        Check.due("book(3, 0, 2), 12 of 11 portions", unscarce(11, 6, 9).book(3, 0, 2), Check.NOT_POSSIBLE);
        GlacierHut x = Check.with(3, 3, 9);
        Check.due("book(3, 0, 1), cut, 3 of 3 portions", x.book(3, 0, 1), 0);
        x = Check.with(2, 3, 9);
        Check.due("book(3, 0, 1), cut, 3 of 2 portions", x.book(3, 0, 1), Check.NOT_POSSIBLE);
        x = Check.with(0, 9, 9);
        Check.due("book(1, 0, 1), no soup at all", x.book(1, 0, 1), Check.NOT_POSSIBLE);
    }

    /** A hut whose ration of 2 is never cut. */
    private static GlacierHut unscarce(int soup, int bread, int gas) {
        GlacierHut x = Check.with(soup, bread, gas);
        x.set(2, 0);
        return x;
    }

    private static void hungryGuestOfAnother() {
        Check.sentence("with it and all others, the nights from now on would have no hungry guest");
        Check.Start start = Check.behind(() -> unscarce(8, 9, 9), x -> x.book(2, 1, 1));
        Check.due("book(2, 0, 1), 4 and 4 of 8", start.hut().book(2, 0, 1), 1);
        Check.refused("book(3, 0, 1), 6 and 4 of 8", start, x -> x.book(3, 0, 1), Check.NOT_POSSIBLE);
        Check.due("book(2, 1, 1), 8 of 8", start.hut().book(2, 1, 1), 1);
        Check.refused("book(3, 1, 1), 10 of 8", start, x -> x.book(3, 1, 1), Check.NOT_POSSIBLE);
    }

    private static void coldNight() {
        Check.sentence("and no cold night");
        Check.due("book(4, 0, 1), one unit", Check.with(99, 99, 1).book(4, 0, 1), 0);
        Check.due("book(5, 0, 1), one unit", Check.with(99, 99, 1).book(5, 0, 1), Check.NOT_POSSIBLE);
        Check.due("book(1, 0, 2), one unit", Check.with(99, 99, 1).book(1, 0, 2), Check.NOT_POSSIBLE);
        Check.due("book(1, 0, 2), two units", Check.with(99, 99, 2).book(1, 0, 2), 0);
        Check.due("book(1, 0, 1), no gas", Check.with(99, 99, 0).book(1, 0, 1), Check.NOT_POSSIBLE);
        GlacierHut x = Check.with(99, 99, 2);
        x.book(4, 1, 1);
        Check.due("book(2, 0, 1), a unit each", x.book(2, 0, 1), 1);
        Check.due("book(1, 1, 1), another unit for the fifth guest", x.book(1, 1, 1), Check.NOT_POSSIBLE);
        Check.due("book(2, 0, 1), the four share a unit", x.book(2, 0, 1), 2);
    }

    private static void coldNightInAStorm() {
        Check.sentence("with the storms that are told");
        Check.Start two = Check.behind(() -> Check.with(99, 99, 2), x -> x.storm(1, 1));
        Check.Start three = Check.behind(() -> Check.with(99, 99, 3), x -> x.storm(1, 1));
        Check.refused("book(1, 0, 1), three of two units", two, x -> x.book(1, 0, 1), Check.NOT_POSSIBLE);
        Check.changes("book(1, 0, 1), three of three units", three, x -> x.book(1, 0, 1), 0);
        GlacierHut x = two.hut();
        x.clear(1);
        Check.due("book(1, 0, 1), no storm", x.book(1, 0, 1), 0);
        x.storm(1, 1);
        Check.due("book(1, 9, 1), the other one would be cold", x.book(1, 9, 1), Check.NOT_POSSIBLE);
    }

    private static void nightsFromNowOn() {
        Check.sentence("the nights from now on");
        GlacierHut x = new GlacierHut();
        x.set(3, 9);
        x.load(0, 3, 9);
        x.load(2, 1, 9);
        x.fly();
        x.book(1, 0, 1);
        x.storm(1, 2);
        x.sleep(3);
        Check.due("count(8), hungry so far", x.count(8), 2);
        Check.due("count(9), cold so far", x.count(9), 2);
        x.load(0, 20, 9);
        x.load(2, 9, 9);
        x.fly();
        Check.due("book(1, 3, 1), nights that were do not count", x.book(1, 3, 1), 1);
    }

    private static void nightsWithoutParties() {
        Check.sentence("as long as a party stays or is booked ahead of the night");
        GlacierHut x = new GlacierHut();
        x.load(0, 99, 5);
        x.load(1, 99, 5);
        x.load(2, 99, 5);
        x.fly();
        Check.due("book(1, 5, 1), on the last day of the stores", x.book(1, 5, 1), 0);
        Check.due("book(1, 5, 2), one night too long", x.book(1, 5, 2), Check.NOT_POSSIBLE);
        Check.due("book(1, 6, 1), one day too late", x.book(1, 6, 1), Check.NOT_POSSIBLE);
        Check.due("count(4)", x.count(4), 0);
    }

    private static void stormsThatAreTold() {
        Check.sentence("with the storms that are told");
        GlacierHut x = unscarce(4, 4, 9);
        x.storm(1, 1);
        Check.due("book(2, 0, 1), kept for a night more, 8 of 4 portions", x.book(2, 0, 1), Check.NOT_POSSIBLE);
        Check.due("book(1, 0, 1), kept for a night more, 4 of 4 portions", x.book(1, 0, 1), 0);
        x = unscarce(4, 4, 9);
        x.storm(0, 1);
        Check.due("book(2, 0, 2), it comes late and sleeps all its nights", x.book(2, 0, 2), Check.NOT_POSSIBLE);
        Check.due("book(1, 0, 2), 4 of 4 portions", x.book(1, 0, 2), 0);
    }

    private static void partyThatNeverComes() {
        Check.sentence("no party that is lapsed for want of beds");
        GlacierHut x = new GlacierHut();
        x.storm(3, 2);
        Check.due("book(6, 3, 2), it lapses for its days, and needs nothing", x.book(6, 3, 2), 0);
        Check.due("goneOn(0)", x.goneOn(0), Check.NOT_FOUND);
        Check.due("book(6, 3, 3), it comes on the day 5, and would be hungry", x.book(6, 3, 3), Check.NOT_POSSIBLE);
        x.set(0, 1);
        Check.due("book(6, 4, 1), it does not come to the want of beds", x.book(6, 4, 1), 1);
    }

    private static void storesInTheHut() {
        Check.sentence("the stores that are in the hut");
        GlacierHut x = new GlacierHut();
        x.load(0, 99, 9);
        x.load(1, 99, 9);
        x.load(2, 99, 9);
        Check.due("book(1, 0, 1), all is on the pallet", x.book(1, 0, 1), Check.NOT_POSSIBLE);
        x.fly();
        Check.due("book(1, 0, 1), all is in the hut", x.book(1, 0, 1), 0);
    }

    private static void settingsAsTheyAre() {
        Check.sentence("and the settings as they are");
        GlacierHut x = unscarce(6, 9, 9);
        x.set(1, 3);
        Check.due("book(3, 0, 1), 9 of 6 portions", x.book(3, 0, 1), Check.NOT_POSSIBLE);
        x.set(1, 2);
        Check.due("book(4, 0, 1), 8 of 6 portions", x.book(4, 0, 1), Check.NOT_POSSIBLE);
        x.set(2, 1);
        Check.due("book(6, 0, 1), cut, 6 of 6 portions", x.book(6, 0, 1), 0);
        x.set(2, 0);
        Check.due("book(1, 9, 1), the other one would be hungry", x.book(1, 9, 1), Check.NOT_POSSIBLE);
    }

    private static void sixteenParties() {
        Check.sentence("There are at most 16 parties, numbered from 0");
        GlacierHut x = Check.full();
        Check.due("count(0)", x.count(0), 16);
        Check.due("count(1)", x.count(1), 16);
        Check.due("partyOf(15, 1)", x.partyOf(15, 1), 15);
        Check.refused("book(1, 20, 1), the 17th", Check::full, y -> y.book(1, 20, 1), Check.LIMIT);
        Check.refused("book(6, 20, 9), the 17th", Check::full, y -> y.book(6, 20, 9), Check.LIMIT);
        Check.refused("book, the 17th behind a cancelling", Check.behind(Check::full, y -> y.cancel(3)),
            y -> y.book(1, 20, 1), Check.LIMIT);
        Check.refused("book, the 17th when all are gone", Check.behind(Check::full, y -> y.sleep(30)),
            y -> y.book(1, 40, 1), Check.LIMIT);
        x.undo();
        Check.due("book, the 16th again", x.book(2, 20, 1), 15);
    }

    private static void bookErrorsInOrder() {
        Check.sentence("INVALID_ARGUMENT rather than NOT_POSSIBLE, NOT_POSSIBLE rather than LIMIT_REACHED");
        Check.refused("book(7, 0, 1), nothing to eat", GlacierHut::new, x -> x.book(7, 0, 1), Check.INVALID);
        Check.refused("book(1, 366, 1), nothing to eat", GlacierHut::new, x -> x.book(1, 366, 1), Check.INVALID);
        Check.refused("book(1, 0, 10), nothing to eat", GlacierHut::new, x -> x.book(1, 0, 10), Check.INVALID);
        Check.refused("book(7, 20, 1), the 17th", Check::full, x -> x.book(7, 20, 1), Check.INVALID);
        Check.refused("book(6, 0, 1), the 17th, no beds", Check::full, x -> x.book(6, 0, 1), Check.NOT_POSSIBLE);
        Check.refused("book(1, 365, 9), the 17th, spoilt", Check::full, x -> x.book(1, 365, 9), Check.NOT_POSSIBLE);
        Check.refused("book(0, 0, 1), the 17th, no beds", Check::full, x -> x.book(0, 0, 1), Check.INVALID);
    }

    private static void cancelRanges() {
        Check.sentence("cancel: INVALID_ARGUMENT; NOT_POSSIBLE if it is not booked");
        Check.refused("cancel(0), no parties", GlacierHut::new, x -> x.cancel(0), Check.INVALID);
        Check.refused("cancel(-1)", Check::full, x -> x.cancel(-1), Check.INVALID);
        Check.refused("cancel(16)", Check::full, x -> x.cancel(16), Check.INVALID);
        Check.refused("cancel(16) behind a booking that was tried", Check.behind(Check::full, x -> x.book(1, 20, 1)),
            x -> x.cancel(16), Check.INVALID);
        Check.refused("cancel(the greatest int)", Check::full, x -> x.cancel(Integer.MAX_VALUE), Check.INVALID);
        Check.due("cancel(0)", Check.full().cancel(0), 15);
        Check.due("cancel(15)", Check.full().cancel(15), 15);
        GlacierHut x = Check.full();
        x.cancel(15);
        Check.due("partyOf(15, 3)", x.partyOf(15, 3), 3);
        Check.due("count(0), a lapsed party is one still", x.count(0), 16);
        Check.changes("cancel(0), the only one", Check.behind(Check::stocked, y -> y.book(1, 0, 1)),
            y -> y.cancel(0), 0);
    }

    private static void cancelOnlyBooked() {
        Check.sentence("NOT_POSSIBLE if it is not booked");
        Check.refused("cancel(0), gone", Check::lived, x -> x.cancel(0), Check.NOT_POSSIBLE);
        Check.refused("cancel(1), lapsed", Check::lived, x -> x.cancel(1), Check.NOT_POSSIBLE);
        Check.refused("cancel(2), it stays", Check::lived, x -> x.cancel(2), Check.NOT_POSSIBLE);
        Check.refused("cancel(4), none", Check::lived, x -> x.cancel(4), Check.INVALID);
        GlacierHut x = Check.lived();
        Check.due("cancel(3)", x.cancel(3), 0);
        Check.due("cancel(3) again", x.cancel(3), Check.NOT_POSSIBLE);
        x = Check.stocked();
        x.storm(0, 1);
        x.book(1, 0, 2);
        x.sleep(1);
        Check.due("cancel(0), still booked since it could not come", x.cancel(0), 0);
        x.sleep(1);
        Check.due("count(10), it did not come", x.count(10), 0);
    }

    private static void stormRanges() {
        Check.sentence("day: this day to 365: the first one; days: 1 to 30: how many");
        Check.Start later = Check.behind(GlacierHut::new, x -> x.sleep(3));
        Check.refused("storm(-1, 1)", GlacierHut::new, x -> x.storm(-1, 1), Check.INVALID);
        Check.changes("storm(0, 1)", GlacierHut::new, x -> x.storm(0, 1), 1);
        Check.refused("storm(2, 1) on the day 3", later, x -> x.storm(2, 1), Check.INVALID);
        Check.refused("storm(2, 5) on the day 3", later, x -> x.storm(2, 5), Check.INVALID);
        Check.changes("storm(3, 1) on the day 3", later, x -> x.storm(3, 1), 1);
        Check.changes("storm(365, 1)", later, x -> x.storm(365, 1), 1);
        Check.refused("storm(366, 1)", later, x -> x.storm(366, 1), Check.INVALID);
        Check.refused("storm(5, -1)", later, x -> x.storm(5, -1), Check.INVALID);
        Check.refused("storm(5, 0)", later, x -> x.storm(5, 0), Check.INVALID);
        Check.changes("storm(5, 30)", later, x -> x.storm(5, 30), 30);
        Check.refused("storm(5, 31)", later, x -> x.storm(5, 31), Check.INVALID);
        Check.refused("storm(365, the greatest int)", later, x -> x.storm(365, Integer.MAX_VALUE), Check.INVALID);
        Check.refused("storm(the greatest int, 1)", later, x -> x.storm(Integer.MAX_VALUE, 1), Check.INVALID);
    }

    private static void stormDays() {
        Check.sentence("each day is a day of storm or not");
        GlacierHut x = new GlacierHut();
        x.storm(3, 2);
        Check.due("storm(4, 3), one of them twice", x.storm(4, 3), 4);
        int[] days = {2, 3, 4, 5, 6, 7};
        int[] were = {0, 1, 1, 1, 1, 0};
        for (int i = 0; i < days.length; i++) {
            Check.due("clear(" + days[i] + ")", x.clear(days[i]), were[i]);
        }
        Check.due("storm(365, 30)", x.storm(365, 30), 30);
        Check.due("clear(364)", x.clear(364), 0);
        Check.due("clear(365)", x.clear(365), 1);
        Check.due("clear(394)", x.clear(394), 1);
        Check.due("clear(395)", x.clear(395), 0);
    }

    private static GlacierHut forty() {
        GlacierHut x = new GlacierHut();
        Check.due("storm(0, 30)", x.storm(0, 30), 30);
        Check.due("storm(30, 10)", x.storm(30, 10), 40);
        return x;
    }

    private static void stormLimit() {
        Check.sentence("LIMIT_REACHED if there would be more than 40");
        Check.Start thirty = Check.behind(GlacierHut::new, x -> x.storm(0, 30));
        Check.changes("storm(30, 10), 40 of them", thirty, x -> x.storm(30, 10), 40);
        Check.refused("storm(30, 11), 41 of them", thirty, x -> x.storm(30, 11), Check.LIMIT);
        Check.changes("storm(29, 11), 40 of them", thirty, x -> x.storm(29, 11), 40);
        Check.refused("storm(29, 12), 41 of them", thirty, x -> x.storm(29, 12), Check.LIMIT);
        Check.refused("storm(365, 11), 41 of them", thirty, x -> x.storm(365, 11), Check.LIMIT);
        Check.refused("storm(50, 1) behind 40", GlacierHutBookingEdges::forty, x -> x.storm(50, 1), Check.LIMIT);
        Check.changes("storm(10, 30), all are there", GlacierHutBookingEdges::forty, x -> x.storm(10, 30), 40);
        GlacierHut x = forty();
        x.clear(7);
        Check.due("storm(50, 2) when one is cleared", x.storm(50, 2), Check.LIMIT);
        Check.due("storm(50, 1) when one is cleared", x.storm(50, 1), 40);
    }

    private static void stormLimitFromThisDayOn() {
        Check.sentence("how many days of storm there are then, from this day on");
        GlacierHut x = forty();
        x.sleep(3);
        Check.due("storm(3, 1), this day counts", x.storm(3, 1), 37);
        Check.due("storm(60, 4)", x.storm(60, 4), Check.LIMIT);
        Check.due("storm(60, 3)", x.storm(60, 3), 40);
        x = new GlacierHut();
        Check.sleepUntil(x, 365);
        Check.due("storm(365, 30) on the day 365", x.storm(365, 30), 30);
        Check.due("count(5)", x.count(5), 1);
        x.undo();
        Check.due("storm(365, 1)", x.storm(365, 1), 1);
    }

    private static void stormErrorsInOrder() {
        Check.sentence("INVALID_ARGUMENT rather than LIMIT_REACHED");
        Check.refused("storm(50, 31) behind 40", GlacierHutBookingEdges::forty, x -> x.storm(50, 31), Check.INVALID);
        Check.refused("storm(366, 1) behind 40", GlacierHutBookingEdges::forty, x -> x.storm(366, 1), Check.INVALID);
        Check.refused("storm(-1, 1) behind 40", GlacierHutBookingEdges::forty, x -> x.storm(-1, 1), Check.INVALID);
        Check.refused("storm(50, 0) behind 40", GlacierHutBookingEdges::forty, x -> x.storm(50, 0), Check.INVALID);
    }

    private static void clearRanges() {
        Check.sentence("day: this day to 395");
        Check.Start later = Check.behind(Check.behind(GlacierHut::new, x -> x.storm(2, 3)), x -> x.sleep(3));
        Check.refused("clear(-1)", GlacierHut::new, x -> x.clear(-1), Check.INVALID);
        Check.refused("clear(2), a storm on the day before", later, x -> x.clear(2), Check.INVALID);
        Check.changes("clear(3), this day", later, x -> x.clear(3), 1);
        Check.changes("clear(395)", later, x -> x.clear(395), 0);
        Check.refused("clear(396)", later, x -> x.clear(396), Check.INVALID);
        Check.refused("clear(the greatest int)", later, x -> x.clear(Integer.MAX_VALUE), Check.INVALID);
        Check.refused("clear(the least int)", later, x -> x.clear(Integer.MIN_VALUE), Check.INVALID);
    }

    private static void clearAnswers() {
        Check.sentence("Returns 1 if it was one, otherwise 0");
        Check.changes("clear(0), no storm", GlacierHut::new, x -> x.clear(0), 0);
        Check.changes("clear(39), the last one", GlacierHutBookingEdges::forty, x -> x.clear(39), 1);
        Check.changes("clear(40), no storm", GlacierHutBookingEdges::forty, x -> x.clear(40), 0);
        GlacierHut x = forty();
        x.clear(0);
        Check.due("clear(0) again", x.clear(0), 0);
        Check.due("count(5)", x.count(5), 0);
        Check.due("clear(1), the next one is one still", x.clear(1), 1);
    }

    private static void setRanges() {
        Check.sentence("0 beds (1 to 40; 12), 1 ration (1 to 3; 2), 2 scarce (0 to 9; 3), 3 flights (0 to 9; 1)");
        int[] lowest = {1, 1, 0, 0};
        int[] highest = {40, 3, 9, 9};
        int[] first = {12, 2, 3, 1};
        for (int i = 0; i < 4; i++) {
            int what = i;
            Check.due("count(" + (20 + i) + ")", new GlacierHut().count(20 + i), first[i]);
            setRefused(what, lowest[i] - 1);
            setRefused(what, highest[i] + 1);
            setRefused(what, Integer.MIN_VALUE);
            setRefused(what, Integer.MAX_VALUE);
            Check.changes("set, the lowest", GlacierHut::new, x -> x.set(what, lowest[what]), first[i]);
            Check.changes("set, the highest", GlacierHut::new, x -> x.set(what, highest[what]), first[i]);
            Check.changes("set, what it was", GlacierHut::new, x -> x.set(what, first[what]), first[i]);
            GlacierHut x = new GlacierHut();
            x.set(what, highest[i]);
            Check.due("count(" + (20 + i) + ")", x.count(20 + i), highest[i]);
            Check.due("set(" + i + "), it was the highest", x.set(i, lowest[i]), highest[i]);
            Check.due("count(" + (20 + i) + ")", x.count(20 + i), lowest[i]);
        }
        Check.refused("set(-1, 1)", GlacierHut::new, x -> x.set(-1, 1), Check.INVALID);
        Check.refused("set(4, 1)", GlacierHut::new, x -> x.set(4, 1), Check.INVALID);
    }

    private static void setRefused(int what, int value) {
        Check.refused("set(" + what + ", " + value + ")", GlacierHut::new, x -> x.set(what, value), Check.INVALID);
    }

    private static void goneOnErrors() {
        Check.sentence("goneOn: INVALID_ARGUMENT; NOT_POSSIBLE if it neither is booked nor stays; NOT_FOUND");
        Check.refused("goneOn(-1)", Check::lived, x -> x.goneOn(-1), Check.INVALID);
        Check.refused("goneOn(4)", Check::lived, x -> x.goneOn(4), Check.INVALID);
        Check.refused("goneOn(16)", Check::full, x -> x.goneOn(16), Check.INVALID);
        Check.refused("goneOn(0), gone", Check::lived, x -> x.goneOn(0), Check.NOT_POSSIBLE);
        Check.refused("goneOn(1), lapsed", Check::lived, x -> x.goneOn(1), Check.NOT_POSSIBLE);
        Check.onlyTells("goneOn(2), it stays", Check::lived, x -> x.goneOn(2), 6);
        Check.onlyTells("goneOn(3), it is booked", Check::lived, x -> x.goneOn(3), 8);
        Check.sentence("NOT_FOUND if it would be lapsed");
        Check.refused("goneOn(3), no beds", Check.behind(Check::lived, x -> x.set(0, 2)), x -> x.goneOn(3),
            Check.NOT_FOUND);
        Check.refused("goneOn(3), a storm on all its days", Check.behind(Check::lived, x -> x.storm(6, 2)),
            x -> x.goneOn(3), Check.NOT_FOUND);
        Check.onlyTells("goneOn(3), a storm on its first day", Check.behind(Check::lived, x -> x.storm(6, 1)),
            x -> x.goneOn(3), 9);
    }

    private static void goneOnDays() {
        Check.sentence("Returns the day in whose step 1 it would be gone");
        GlacierHut x = Check.stocked();
        x.book(1, 0, 1);
        Check.due("goneOn(0)", x.goneOn(0), 1);
        x.sleep(1);
        Check.due("goneOn(0) on the day on which it goes", x.goneOn(0), 1);
        x.storm(1, 1);
        Check.due("goneOn(0), kept", x.goneOn(0), 2);
        x.sleep(1);
        Check.due("goneOn(0), kept", x.goneOn(0), 2);
        x.clear(2);
        x.sleep(1);
        Check.due("goneOn(0)", x.goneOn(0), Check.NOT_POSSIBLE);
        Check.due("partyOf(0, 3)", x.partyOf(0, 3), 2);
    }

    private static void goneOnBeyondTheYear() {
        Check.sentence("(also beyond 365)");
        GlacierHut x = Check.stocked();
        x.book(1, 365, 1);
        Check.due("goneOn(0)", x.goneOn(0), 366);
        x.storm(365, 30);
        Check.due("goneOn(0), it cannot come", x.goneOn(0), Check.NOT_FOUND);
        x.clear(365);
        Check.due("goneOn(0), kept until the last storm is over", x.goneOn(0), 395);
        x.clear(394);
        Check.due("goneOn(0), a storm less", x.goneOn(0), 394);
        x.clear(366);
        Check.due("goneOn(0), not kept", x.goneOn(0), 366);
        Check.sleepUntil(x, 365);
        Check.due("goneOn(0) on the day 365", x.goneOn(0), 366);
        Check.due("sleep(1)", x.sleep(1), Check.LIMIT);
    }

    private static void outOnErrors() {
        Check.sentence("outOn: kind: 0 to 2");
        Check.refused("outOn(-1)", Check::lived, x -> x.outOn(-1), Check.INVALID);
        Check.refused("outOn(3)", Check::lived, x -> x.outOn(3), Check.INVALID);
        Check.refused("outOn(-1), no parties", GlacierHut::new, x -> x.outOn(-1), Check.INVALID);
        Check.refused("outOn(3), no parties", GlacierHut::new, x -> x.outOn(3), Check.INVALID);
        Check.refused("outOn(0), no parties", GlacierHut::new, x -> x.outOn(0), Check.NOT_FOUND);
        Check.refused("outOn(2), no parties", GlacierHut::new, x -> x.outOn(2), Check.NOT_FOUND);
        Check.refused("outOn(2)", Check::lived, x -> x.outOn(2), Check.NOT_FOUND);
    }

    private static void outOnDays() {
        Check.sentence("on which day the stock of a kind would be 0 behind the night");
        GlacierHut x = Check.with(8, 4, 3);
        x.set(2, 0);
        x.book(2, 1, 2);
        Check.due("outOn(0), 4 and 4 of 8", x.outOn(0), 2);
        Check.due("outOn(1), 2 and 2 of 4", x.outOn(1), 2);
        Check.due("outOn(2), a unit is left", x.outOn(2), Check.NOT_FOUND);
        x.set(1, 1);
        Check.due("outOn(0), 2 and 2 of 8", x.outOn(0), Check.NOT_FOUND);
        x.set(1, 3);
        Check.due("outOn(0), 6 and 2 of 8", x.outOn(0), 2);
        x.storm(1, 1);
        Check.due("outOn(1), it comes a day later", x.outOn(1), 3);
        x.storm(4, 1);
        Check.due("outOn(2), in the night for which it is kept", x.outOn(2), 4);
        x = Check.with(6, 9, 9);
        x.set(2, 0);
        x.book(3, 0, 1);
        Check.due("outOn(0), this day at the earliest", x.outOn(0), 0);
        x.sleep(1);
        Check.due("outOn(0), it is 0 already", x.outOn(0), 1);
        x.sleep(1);
        Check.due("outOn(0), nobody is there", x.outOn(0), Check.NOT_FOUND);
    }

    private static void outOnEmptyStock() {
        Check.sentence("this day at the earliest");
        GlacierHut x = Check.with(99, 0, 99);
        x.sleep(2);
        Check.due("outOn(1), no bread and no parties", x.outOn(1), Check.NOT_FOUND);
        x.book(1, 9, 1);
        Check.due("outOn(1), no bread", x.outOn(1), 2);
        x.load(1, 9, 99);
        Check.due("outOn(1), bread on the pallet only", x.outOn(1), 2);
    }

    private static void outOnUntilNoParty() {
        Check.sentence("NOT_FOUND if it would not be in the nights until no party stays or is booked any more");
        GlacierHut x = new GlacierHut();
        x.load(0, 99, 4);
        x.load(1, 99, 2);
        x.load(2, 99, 3);
        x.fly();
        x.book(1, 1, 2);
        Check.due("outOn(1), it spoils in the last night", x.outOn(1), 2);
        Check.due("outOn(2), it spoils in the night in which the party goes", x.outOn(2), 3);
        Check.due("outOn(0), it spoils when no party is there", x.outOn(0), Check.NOT_FOUND);
        x.cancel(0);
        Check.due("outOn(1), it has cancelled", x.outOn(1), Check.NOT_FOUND);
    }

    private static void mostRanges() {
        Check.sentence("most: day: this day to 365; nights: 1 to 9");
        Check.Start later = Check.behind(Check::stocked, x -> x.sleep(3));
        Check.refused("most(-1, 1)", Check::stocked, x -> x.most(-1, 1), Check.INVALID);
        Check.refused("most(2, 1) on the day 3", later, x -> x.most(2, 1), Check.INVALID);
        Check.onlyTells("most(3, 1) on the day 3", later, x -> x.most(3, 1), 6);
        Check.onlyTells("most(365, 1)", later, x -> x.most(365, 1), 6);
        Check.onlyTells("most(365, 2), spoilt", later, x -> x.most(365, 2), 0);
        Check.refused("most(366, 1)", later, x -> x.most(366, 1), Check.INVALID);
        Check.refused("most(3, 0)", later, x -> x.most(3, 0), Check.INVALID);
        Check.onlyTells("most(3, 9)", later, x -> x.most(3, 9), 6);
        Check.refused("most(3, 10)", later, x -> x.most(3, 10), Check.INVALID);
        Check.refused("most(the greatest int, 1)", later, x -> x.most(Integer.MAX_VALUE, 1), Check.INVALID);
    }

    private static void mostSizes() {
        Check.sentence("Returns the size, 0 if none would be");
        for (int beds = 1; beds <= 7; beds++) {
            GlacierHut x = Check.stocked();
            x.set(0, beds);
            Check.due("most(0, 1), beds being " + beds, x.most(0, 1), Math.min(6, beds));
        }
        for (int soup = 0; soup <= 14; soup++) {
            GlacierHut x = unscarce(soup, 99, 99);
            Check.due("most(0, 1), soup being " + soup, x.most(0, 1), Math.min(6, soup / 2));
        }
        Check.due("most(0, 1), one unit of gas", Check.with(99, 99, 1).most(0, 1), 4);
        Check.due("most(0, 1), no gas", Check.with(99, 99, 0).most(0, 1), 0);
        GlacierHut x = new GlacierHut();
        x.storm(0, 1);
        Check.due("most(0, 1), none could come", x.most(0, 1), 6);
    }

    private static void mostLimit() {
        Check.sentence("LIMIT_REACHED if there were 16");
        GlacierHut x = Check.full();
        x.undo();
        Check.due("most(300, 1), there are 15", x.most(300, 1), 6);
        Check.onlyTells("most(300, 1), there are 16", Check::full, y -> y.most(300, 1), Check.LIMIT);
        Check.onlyTells("most(365, 9), there are 16 and none would be taken", Check::full, y -> y.most(365, 9),
            Check.LIMIT);
        Check.refused("most(366, 1), there are 16", Check::full, y -> y.most(366, 1), Check.INVALID);
        Check.refused("most(0, 10), there are 16", Check::full, y -> y.most(0, 10), Check.INVALID);
        Check.refused("most(40, 1), all 16 are gone", Check.behind(Check::full, y -> y.sleep(30)), y -> y.most(40, 1),
            Check.LIMIT);
    }
}
