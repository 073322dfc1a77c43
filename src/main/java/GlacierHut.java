/**
 * A hut on a glacier that is stocked by flights and slept in by parties that book ahead.
 * The face checks and answers calls; a Hut is one state of the hut and does the work.
 */
public final class GlacierHut {
    public static final int INVALID_ARGUMENT = -1;
    public static final int NOT_POSSIBLE = -2;
    public static final int LIMIT_REACHED = -3;
    public static final int NOT_FOUND = -4;

    private final Hut now;
    private final Hut trial;
    private final Hut snapshot;
    private final History history;
    private final Text text;
    private final Rehearsal rehearsal;
    private boolean kept;

    public GlacierHut() {
        now = new Hut();
        trial = new Hut();
        snapshot = new Hut();
        history = new History();
        text = new Text();
        rehearsal = new Rehearsal();
        kept = false;
    }

    // ---- stores

    public int load(int kind, int amount, int days) {
        history.prepare(now);
        return recorded(now.putOnPallet(kind, amount, days));
    }

    public int fly() {
        history.prepare(now);
        return recorded(now.bringPallet());
    }

    // ---- parties, storms

    public int book(int size, int day, int nights) {
        history.prepare(now);
        return recorded(now.takeBooking(size, day, nights, trial));
    }

    public int cancel(int party) {
        history.prepare(now);
        return recorded(now.callOff(party));
    }

    public int storm(int day, int days) {
        history.prepare(now);
        return recorded(now.tellStorm(day, days));
    }

    public int clear(int day) {
        history.prepare(now);
        return recorded(now.tellCalm(day));
    }

    public int sleep(int nights) {
        history.prepare(now);
        return recorded(now.passNights(nights));
    }

    public int set(int what, int value) {
        history.prepare(now);
        return recorded(now.changeSetting(what, value));
    }

    // ---- what there is

    public int lotOf(int kind, int index, int what) {
        if (!Stores.isKind(kind) || what < 0 || what > 1 || index < 0) {
            return INVALID_ARGUMENT;
        }
        int lot = now.stores.find(kind, index);
        if (lot < 0) {
            return NOT_FOUND;
        }
        return what == 0 ? now.stores.lotAmount[lot] : now.stores.lotLast[lot];
    }

    public int storeOf(int kind, int what) {
        if (!Stores.isKind(kind)) {
            return INVALID_ARGUMENT;
        }
        Stores stores = now.stores;
        switch (what) {
            case 0: return stores.stock(kind);
            case 1: return stores.brought[kind];
            case 2: return stores.used[kind];
            case 3: return stores.spoilt[kind];
            case 4: return stores.lotsOfKind(kind);
            case 5: return stores.amountOnPallet(kind);
            default: return INVALID_ARGUMENT;
        }
    }

    public int partyOf(int party, int what) {
        Parties parties = now.parties;
        if (!parties.has(party)) {
            return INVALID_ARGUMENT;
        }
        switch (what) {
            case 0: return parties.size[party];
            case 1: return parties.day[party];
            case 2: return parties.nights[party];
            case 3: return parties.status[party];
            case 4: return parties.slept[party];
            case 5: return parties.came[party] < 0 ? NOT_FOUND : parties.came[party];
            case 6: return Math.max(0, parties.slept[party] - parties.nights[party]);
            default: return INVALID_ARGUMENT;
        }
    }

    public int count(int what) {
        switch (what) {
            case 0: return now.parties.number;
            case 1: return now.parties.withStatus(Parties.BOOKED);
            case 2: return now.parties.withStatus(Parties.STAYS);
            case 3: return now.parties.guests();
            case 4: return now.day;
            case 5: return now.isStorm() ? 1 : 0;
            case 6: return now.flights;
            case 7: return now.stores.onPallet;
            case 8: return now.hungry;
            case 9: return now.coldNights;
            case 10: return now.guestNights;
            case 11: return now.cutSuppers;
            case 12: return history.length;
            case 13: return text.length;
            case 14: return kept ? 1 : 0;
            default: return now.settingAt(what - 20);
        }
    }

    // ---- what would be

    public int goneOn(int party) {
        if (!now.parties.has(party)) {
            return INVALID_ARGUMENT;
        }
        if (!now.parties.isAwaited(party)) {
            return NOT_POSSIBLE;
        }
        trial.copyFrom(now);
        return trial.dayWhenGone(party);
    }

    public int outOn(int kind) {
        if (!Stores.isKind(kind)) {
            return INVALID_ARGUMENT;
        }
        trial.copyFrom(now);
        return trial.dayWhenOut(kind);
    }

    public int most(int day, int nights) {
        if (!now.mayBeBooked(1, day, nights)) {
            return INVALID_ARGUMENT;
        }
        if (now.parties.number >= Parties.LIMIT) {
            return LIMIT_REACHED;
        }
        // a greater party may be taken where a smaller one is not: it can make soup scarce and rations small
        for (int size = Parties.GREATEST; size >= 1; size--) {
            trial.copyFrom(now);
            if (trial.wouldSuffice(size, day, nights)) {
                return size;
            }
        }
        return 0;
    }

    // ---- snapshot, undo

    public int keep() {
        snapshot.copyFrom(now);
        kept = true;
        return now.day;
    }

    public int restore() {
        if (!kept) {
            return NOT_POSSIBLE;
        }
        history.prepare(now);
        now.copyFrom(snapshot);
        return recorded(now.day);
    }

    public int undo() {
        if (history.length == 0) {
            return NOT_POSSIBLE;
        }
        history.takeBack(now);
        return history.length;
    }

    // ---- texts

    public int type(int character) {
        if (character < 32 || character > 126) {
            return INVALID_ARGUMENT;
        }
        if (text.length >= Text.LIMIT) {
            return LIMIT_REACHED;
        }
        text.append(character);
        return text.length;
    }

    public int clearText() {
        int had = text.length;
        text.length = 0;
        return had;
    }

    public int fault(int what) {
        if (what < 0 || what > 2) {
            return INVALID_ARGUMENT;
        }
        rehearsal.run(text, now);
        if (rehearsal.reason == Rehearsal.NO_FAULT) {
            return NOT_FOUND;
        }
        if (what == 0) {
            return rehearsal.position;
        }
        if (what == 1) {
            return rehearsal.reason;
        }
        return rehearsal.reason == Rehearsal.BAD_FORM ? NOT_FOUND : rehearsal.cause;
    }

    public int play() {
        rehearsal.run(text, now);
        if (rehearsal.reason != Rehearsal.NO_FAULT) {
            return NOT_POSSIBLE;
        }
        history.prepare(now);
        now.copyFrom(rehearsal.hut);
        return recorded(rehearsal.commands);
    }

    /** Lets the prepared state enter the history if the answer is no error. */
    private int recorded(int answer) {
        if (answer >= 0) {
            history.commit();
        }
        return answer;
    }

    /** All that a change can change: what the history and the snapshot hold copies of. */
    private static final class Hut {
        static final int LAST_DAY = 365;
        static final int LAST_CLEARED_DAY = 395;
        static final int LONGEST_STORM = 30;
        static final int STORM_LIMIT = 40;
        static final int LONGEST_SLEEP = 60;
        // every party is gone or lapsed by the day 395: the last storm is told for the day 394
        static final int NIGHTS_AHEAD = 1000;

        static final int SETTINGS = 4;
        static final int BEDS = 0;
        static final int FULL_RATION = 1;
        static final int SCARCE = 2;
        static final int FLIGHTS = 3;
        static final int[] LOWEST = {1, 1, 0, 0};
        static final int[] HIGHEST = {40, 3, 9, 9};
        static final int[] FIRST = {12, 2, 3, 1};

        final Stores stores;
        final Parties parties;
        final boolean[] storms;
        final int[] settings;
        int day;
        int flights;
        int hungry;
        int coldNights;
        int guestNights;
        int cutSuppers;

        Hut() {
            stores = new Stores();
            parties = new Parties();
            storms = new boolean[LAST_CLEARED_DAY + 1];
            settings = new int[SETTINGS];
            for (int i = 0; i < SETTINGS; i++) {
                settings[i] = FIRST[i];
            }
        }

        void copyFrom(Hut other) {
            stores.copyFrom(other.stores);
            parties.copyFrom(other.parties);
            System.arraycopy(other.storms, 0, storms, 0, LAST_CLEARED_DAY + 1);
            System.arraycopy(other.settings, 0, settings, 0, SETTINGS);
            day = other.day;
            flights = other.flights;
            hungry = other.hungry;
            coldNights = other.coldNights;
            guestNights = other.guestNights;
            cutSuppers = other.cutSuppers;
        }

        int putOnPallet(int kind, int amount, int days) {
            if (!Stores.isKind(kind) || amount < 1 || amount > 999 || days < 0 || days > 365) {
                return INVALID_ARGUMENT;
            }
            if (stores.onPallet >= Stores.PALLET_LIMIT) {
                return LIMIT_REACHED;
            }
            stores.addToPallet(kind, amount, days);
            return stores.onPallet;
        }

        int bringPallet() {
            int bringing = stores.onPallet;
            if (bringing == 0 || isStorm() || flights >= settings[FLIGHTS]) {
                return NOT_POSSIBLE;
            }
            if (stores.lots + bringing > Stores.LOT_LIMIT) {
                return LIMIT_REACHED;
            }
            stores.unloadPallet(day);
            flights++;
            return bringing;
        }

        boolean mayBeBooked(int size, int from, int nights) {
            return size >= 1 && size <= Parties.GREATEST && from >= day && from <= LAST_DAY
                && nights >= 1 && nights <= Parties.LONGEST;
        }

        int takeBooking(int size, int from, int nights, Hut trial) {
            if (!mayBeBooked(size, from, nights)) {
                return INVALID_ARGUMENT;
            }
            trial.copyFrom(this);
            if (!trial.wouldSuffice(size, from, nights)) {
                return NOT_POSSIBLE;
            }
            if (parties.number >= Parties.LIMIT) {
                return LIMIT_REACHED;
            }
            parties.add(size, from, nights);
            return parties.number - 1;
        }

        /** Turns this hut into what would be if the booking were taken; returns whether all of it suffices. */
        boolean wouldSuffice(int size, int from, int nights) {
            parties.add(size, from, nights);
            for (int i = 0; i < NIGHTS_AHEAD && parties.anyAwaited(); i++) {
                if (!passNight()) {
                    return false;
                }
            }
            return true;
        }

        int callOff(int party) {
            if (!parties.has(party)) {
                return INVALID_ARGUMENT;
            }
            if (parties.status[party] != Parties.BOOKED) {
                return NOT_POSSIBLE;
            }
            parties.status[party] = Parties.LAPSED;
            return parties.withStatus(Parties.BOOKED);
        }

        int tellStorm(int from, int days) {
            if (from < day || from > LAST_DAY || days < 1 || days > LONGEST_STORM) {
                return INVALID_ARGUMENT;
            }
            int end = from + days;
            int ahead = 0;
            for (int i = day; i < storms.length; i++) {
                if (storms[i] || i >= from && i < end) {
                    ahead++;
                }
            }
            if (ahead > STORM_LIMIT) {
                return LIMIT_REACHED;
            }
            for (int i = from; i < end && i < storms.length; i++) {
                storms[i] = true;
            }
            return ahead;
        }

        int tellCalm(int which) {
            if (which < day || which > LAST_CLEARED_DAY) {
                return INVALID_ARGUMENT;
            }
            boolean was = storms[which];
            storms[which] = false;
            return was ? 1 : 0;
        }

        boolean isStorm() {
            return day < storms.length && storms[day];
        }

        int passNights(int nights) {
            if (nights < 1 || nights > LONGEST_SLEEP) {
                return INVALID_ARGUMENT;
            }
            if (day + nights > LAST_DAY) {
                return LIMIT_REACHED;
            }
            int before = hungry;
            for (int i = 0; i < nights; i++) {
                passNight();
            }
            return hungry - before;
        }

        /** Returns whether there was enough of beds, food and gas. */
        boolean passNight() {
            boolean storm = isStorm();
            if (!storm) {
                parties.leave();
            }
            boolean housed = parties.arrive(day, storm, settings[BEDS] - parties.guests());
            int guests = parties.guests();
            int ration = rationFor(guests, stores.stock(Stores.SOUP));
            if (ration < settings[FULL_RATION]) {
                cutSuppers++;
            }
            int soup = guests * ration + guests - stores.take(Stores.BREAD, guests);
            int unfed = Math.min(guests, soup - stores.take(Stores.SOUP, soup));
            int gas = gasFor(guests, storm);
            boolean cold = stores.take(Stores.GAS, gas) < gas;
            hungry += unfed;
            if (cold) {
                coldNights++;
            }
            guestNights += guests;
            parties.sleepOnce();
            stores.spoil(day);
            stores.dropEmptyLots();
            day++;
            return housed && unfed == 0 && !cold;
        }

        private int rationFor(int guests, int soup) {
            int full = settings[FULL_RATION];
            return soup < settings[SCARCE] * guests * full ? 1 : full;
        }

        private int gasFor(int guests, boolean storm) {
            if (guests == 0) {
                return 0;
            }
            return (guests + 3) / 4 + (storm ? 1 : 0);
        }

        int changeSetting(int what, int value) {
            if (what < 0 || what >= SETTINGS || value < LOWEST[what] || value > HIGHEST[what]) {
                return INVALID_ARGUMENT;
            }
            int was = settings[what];
            settings[what] = value;
            return was;
        }

        int settingAt(int what) {
            return what >= 0 && what < SETTINGS ? settings[what] : INVALID_ARGUMENT;
        }

        /** Lets nights go by until the party is gone or lapsed. */
        int dayWhenGone(int party) {
            for (int i = 0; i < NIGHTS_AHEAD && parties.isAwaited(party); i++) {
                passNight();
            }
            // the night in whose first step it went is over
            return parties.hasStatus(party, Parties.GONE) ? day - 1 : NOT_FOUND;
        }

        /** Lets nights go by until the kind is used up. */
        int dayWhenOut(int kind) {
            for (int i = 0; i < NIGHTS_AHEAD && parties.anyAwaited(); i++) {
                passNight();
                if (stores.stock(kind) == 0) {
                    return day - 1;
                }
            }
            return NOT_FOUND;
        }
    }

    /** The lots in the hut, those on the pallet, and the accounts of the kinds. */
    private static final class Stores {
        static final int SOUP = 0;
        static final int BREAD = 1;
        static final int GAS = 2;
        static final int KINDS = 3;
        static final int LOT_LIMIT = 20;
        static final int PALLET_LIMIT = 6;

        // all kinds in one row, by last days and then as they came: the order in which they are used
        final int[] lotKind;
        final int[] lotAmount;
        final int[] lotLast;
        int lots;
        final int[] palletKind;
        final int[] palletAmount;
        final int[] palletDays;
        int onPallet;
        final int[] brought;
        final int[] used;
        final int[] spoilt;

        Stores() {
            lotKind = new int[LOT_LIMIT];
            lotAmount = new int[LOT_LIMIT];
            lotLast = new int[LOT_LIMIT];
            palletKind = new int[PALLET_LIMIT];
            palletAmount = new int[PALLET_LIMIT];
            palletDays = new int[PALLET_LIMIT];
            brought = new int[KINDS];
            used = new int[KINDS];
            spoilt = new int[KINDS];
        }

        static boolean isKind(int kind) {
            return kind >= 0 && kind < KINDS;
        }

        void copyFrom(Stores other) {
            System.arraycopy(other.lotKind, 0, lotKind, 0, LOT_LIMIT);
            System.arraycopy(other.lotAmount, 0, lotAmount, 0, LOT_LIMIT);
            System.arraycopy(other.lotLast, 0, lotLast, 0, LOT_LIMIT);
            System.arraycopy(other.palletKind, 0, palletKind, 0, PALLET_LIMIT);
            System.arraycopy(other.palletAmount, 0, palletAmount, 0, PALLET_LIMIT);
            System.arraycopy(other.palletDays, 0, palletDays, 0, PALLET_LIMIT);
            System.arraycopy(other.brought, 0, brought, 0, KINDS);
            System.arraycopy(other.used, 0, used, 0, KINDS);
            System.arraycopy(other.spoilt, 0, spoilt, 0, KINDS);
            lots = other.lots;
            onPallet = other.onPallet;
        }

        void addToPallet(int kind, int amount, int days) {
            if (onPallet >= PALLET_LIMIT) {
                return;
            }
            palletKind[onPallet] = kind;
            palletAmount[onPallet] = amount;
            palletDays[onPallet] = days;
            onPallet++;
        }

        void unloadPallet(int day) {
            for (int i = 0; i < onPallet; i++) {
                addLot(palletKind[i], palletAmount[i], day + palletDays[i]);
            }
            onPallet = 0;
        }

        private void addLot(int kind, int amount, int last) {
            if (lots >= LOT_LIMIT || !isKind(kind)) {
                return;
            }
            int place = lots;
            while (place > 0 && lotLast[place - 1] > last) {
                lotKind[place] = lotKind[place - 1];
                lotAmount[place] = lotAmount[place - 1];
                lotLast[place] = lotLast[place - 1];
                place--;
            }
            lotKind[place] = kind;
            lotAmount[place] = amount;
            lotLast[place] = last;
            lots++;
            brought[kind] += amount;
        }

        /** Takes as much as wanted, or all that there is, and returns how much that was. */
        int take(int kind, int wanted) {
            int taken = 0;
            for (int i = 0; i < lots; i++) {
                if (lotKind[i] == kind) {
                    int missing = wanted - taken;
                    int part = lotAmount[i] < missing ? lotAmount[i] : missing;
                    lotAmount[i] -= part;
                    taken += part;
                }
            }
            used[kind] += taken;
            return taken;
        }

        void spoil(int day) {
            for (int kind = 0; kind < KINDS; kind++) {
                for (int i = 0; i < lots; i++) {
                    if (lotKind[i] == kind && lotLast[i] == day) {
                        spoilt[kind] += lotAmount[i];
                        lotAmount[i] = 0;
                    }
                }
            }
        }

        void dropEmptyLots() {
            int left = 0;
            for (int i = 0; i < lots; i++) {
                if (lotAmount[i] > 0) {
                    lotKind[left] = lotKind[i];
                    lotAmount[left] = lotAmount[i];
                    lotLast[left] = lotLast[i];
                    left++;
                }
            }
            lots = left;
        }

        /** Returns the place of the lot that is used as the given one of its kind, or -1. */
        int find(int kind, int index) {
            int ahead = 0;
            for (int i = 0; i < lots; i++) {
                if (lotKind[i] == kind) {
                    if (ahead == index) {
                        return i;
                    }
                    ahead++;
                }
            }
            return -1;
        }

        int stock(int kind) {
            int sum = 0;
            for (int i = 0; i < lots; i++) {
                if (lotKind[i] == kind) {
                    sum += lotAmount[i];
                }
            }
            return sum;
        }

        int lotsOfKind(int kind) {
            int found = 0;
            for (int i = 0; i < lots; i++) {
                if (lotKind[i] == kind) {
                    found++;
                }
            }
            return found;
        }

        int amountOnPallet(int kind) {
            int sum = 0;
            for (int i = 0; i < onPallet; i++) {
                if (palletKind[i] == kind) {
                    sum += palletAmount[i];
                }
            }
            return sum;
        }
    }

    /** The parties, those that are gone or lapsed too. */
    private static final class Parties {
        static final int LIMIT = 16;
        static final int GREATEST = 6;
        static final int LONGEST = 9;
        // one place more: a booking is tried also when there are 16
        static final int ROOM = LIMIT + 1;
        static final int BOOKED = 0;
        static final int STAYS = 1;
        static final int GONE = 2;
        static final int LAPSED = 3;

        final int[] size;
        final int[] day;
        final int[] nights;
        final int[] status;
        final int[] slept;
        // the day on which it came, -1 if it did not
        final int[] came;
        int number;

        Parties() {
            size = new int[ROOM];
            day = new int[ROOM];
            nights = new int[ROOM];
            status = new int[ROOM];
            slept = new int[ROOM];
            came = new int[ROOM];
        }

        void copyFrom(Parties other) {
            System.arraycopy(other.size, 0, size, 0, ROOM);
            System.arraycopy(other.day, 0, day, 0, ROOM);
            System.arraycopy(other.nights, 0, nights, 0, ROOM);
            System.arraycopy(other.status, 0, status, 0, ROOM);
            System.arraycopy(other.slept, 0, slept, 0, ROOM);
            System.arraycopy(other.came, 0, came, 0, ROOM);
            number = other.number;
        }

        boolean has(int party) {
            return party >= 0 && party < number;
        }

        boolean hasStatus(int party, int which) {
            return has(party) && status[party] == which;
        }

        /** Whether the party is booked or stays. */
        boolean isAwaited(int party) {
            return has(party) && (status[party] == BOOKED || status[party] == STAYS);
        }

        boolean anyAwaited() {
            for (int i = 0; i < number; i++) {
                if (status[i] == BOOKED || status[i] == STAYS) {
                    return true;
                }
            }
            return false;
        }

        int withStatus(int which) {
            int found = 0;
            for (int i = 0; i < number; i++) {
                if (status[i] == which) {
                    found++;
                }
            }
            return found;
        }

        int guests() {
            int sum = 0;
            for (int i = 0; i < number; i++) {
                if (status[i] == STAYS) {
                    sum += size[i];
                }
            }
            return sum;
        }

        void add(int ofSize, int from, int forNights) {
            if (number >= ROOM) {
                return;
            }
            size[number] = ofSize;
            day[number] = from;
            nights[number] = forNights;
            status[number] = BOOKED;
            slept[number] = 0;
            came[number] = -1;
            number++;
        }

        void leave() {
            for (int i = 0; i < number; i++) {
                if (status[i] == STAYS && slept[i] >= nights[i]) {
                    status[i] = GONE;
                }
            }
        }

        /** Returns whether no party lapses for want of beds. */
        boolean arrive(int today, boolean storm, int beds) {
            boolean housed = true;
            int free = beds;
            for (int i = 0; i < number; i++) {
                if (status[i] != BOOKED || day[i] > today) {
                    continue;
                }
                if (day[i] + nights[i] <= today) {
                    status[i] = LAPSED;
                } else if (!storm && size[i] <= free) {
                    status[i] = STAYS;
                    came[i] = today;
                    free -= size[i];
                } else if (!storm) {
                    status[i] = LAPSED;
                    housed = false;
                }
            }
            return housed;
        }

        void sleepOnce() {
            for (int i = 0; i < number; i++) {
                if (status[i] == STAYS) {
                    slept[i]++;
                }
            }
        }
    }

    /** The latest states; the place behind them is for the one that is about to be recorded. */
    private static final class History {
        static final int LIMIT = 4;

        final Hut[] states;
        int length;

        History() {
            states = new Hut[LIMIT + 1];
            for (int i = 0; i <= LIMIT; i++) {
                states[i] = new Hut();
            }
        }

        void prepare(Hut now) {
            Hut place = length >= 0 && length <= LIMIT ? states[length] : null;
            if (place != null) {
                place.copyFrom(now);
            }
        }

        void commit() {
            length++;
            if (length <= LIMIT) {
                return;
            }
            Hut dropped = states[0];
            for (int i = 0; i < LIMIT; i++) {
                states[i] = states[i + 1];
            }
            states[LIMIT] = dropped;
            length = LIMIT;
        }

        void takeBack(Hut now) {
            Hut latest = length >= 1 && length <= LIMIT ? states[length - 1] : null;
            if (latest != null) {
                now.copyFrom(latest);
                length--;
            }
        }
    }

    /** The text, and the command that was read last from it. */
    private static final class Text {
        static final int LIMIT = 60;
        static final int MOST_NUMBERS = 3;
        static final int MOST_DIGITS = 3;

        final char[] characters;
        int length;
        final int[] numbers;
        char letter;
        int next;

        Text() {
            characters = new char[LIMIT];
            numbers = new int[MOST_NUMBERS];
        }

        void append(int character) {
            if (length < LIMIT) {
                characters[length] = (char) character;
                length++;
            }
        }

        /** Reads the command at a position, so that next is behind it; returns whether it has the form of one. */
        boolean readCommand(int position) {
            letter = at(position);
            next = position + 1;
            int wanted = numbersOf(letter);
            if (wanted < 0) {
                return false;
            }
            for (int i = 0; i < wanted && i < MOST_NUMBERS; i++) {
                if (i > 0 && !passes(',')) {
                    return false;
                }
                numbers[i] = readNumber();
                if (numbers[i] < 0) {
                    return false;
                }
            }
            return passes(';');
        }

        /** Returns how many numbers a command with the letter has, or -1 if there is none. */
        private int numbersOf(char which) {
            switch (which) {
                case 'l': return 3;
                case 'f': return 0;
                case 'b': return 3;
                case 'x': return 1;
                case 's': return 2;
                case 'n': return 1;
                default: return -1;
            }
        }

        /** Returns the number ahead, or -1 if there is no digit. */
        private int readNumber() {
            int value = -1;
            for (int i = 0; i < MOST_DIGITS; i++) {
                char sign = at(next);
                if (sign < '0' || sign > '9') {
                    return value;
                }
                value = Math.max(value, 0) * 10 + (sign - '0');
                next++;
            }
            return value;
        }

        private boolean passes(char expected) {
            if (at(next) != expected) {
                return false;
            }
            next++;
            return true;
        }

        private char at(int position) {
            return position >= 0 && position < length ? characters[position] : (char) 0;
        }
    }

    /** Does the commands of a text in a hut of its own, as far as they are possible. */
    private static final class Rehearsal {
        static final int NO_FAULT = 0;
        static final int BAD_FORM = 1;
        static final int REFUSED = 2;

        final Hut hut;
        final Hut trial;
        int commands;
        int position;
        int reason;
        int cause;

        Rehearsal() {
            hut = new Hut();
            trial = new Hut();
        }

        void run(Text text, Hut start) {
            hut.copyFrom(start);
            commands = 0;
            position = 0;
            reason = NO_FAULT;
            cause = 0;
            for (int i = 0; i < Text.LIMIT && position < text.length; i++) {
                if (!text.readCommand(position)) {
                    reason = BAD_FORM;
                    return;
                }
                int answer = obey(text.letter, text.numbers);
                if (answer < 0) {
                    reason = REFUSED;
                    cause = answer;
                    return;
                }
                commands++;
                position = text.next;
            }
        }

        private int obey(char letter, int[] numbers) {
            switch (letter) {
                case 'l': return hut.putOnPallet(numbers[0], numbers[1], numbers[2]);
                case 'f': return hut.bringPallet();
                case 'b': return hut.takeBooking(numbers[0], numbers[1], numbers[2], trial);
                case 'x': return hut.callOff(numbers[0]);
                case 's': return hut.tellStorm(numbers[0], numbers[1]);
                case 'n': return hut.passNights(numbers[0]);
                default: return INVALID_ARGUMENT;
            }
        }
    }
}
