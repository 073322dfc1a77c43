import java.util.ArrayList;
import java.util.Comparator;
import java.util.List;
import java.util.TreeSet;
import java.util.regex.Matcher;
import java.util.regex.Pattern;

/**
 * Long mixed runs of calls, each answer compared with that of a second, plainer program of the
 * document. The runs are made from fixed seeds: they are the same every time.
 */
public final class GlacierHutAgainstModel {
    private static final int RUNS = 4000;
    private static final int CALLS = 512;

    private static int wrong = 0;

    public static void main(String[] args) {
        for (int run = 0; run < RUNS && wrong < 5; run++) {
            playRun(run);
        }
        System.out.println(wrong == 0 ? RUNS + " runs agree" : wrong + " runs differ");
        if (wrong != 0) {
            System.exit(1);
        }
    }

    private static void playRun(int run) {
        Numbers numbers = new Numbers(run);
        GlacierHut hut = new GlacierHut();
        Model model = new Model();
        List<String> calls = new ArrayList<>();
        int style = run % 8;
        for (int i = 0; i < CALLS; i++) {
            int[] call = i < Calls.STOCKING.length && run % 4 != 0
                ? Calls.stocking(numbers, i) : Calls.choose(numbers, model, style);
            int got = Calls.onHut(hut, call);
            int want = Calls.onModel(model, call);
            calls.add(Calls.told(call) + " -> " + got);
            if (got != want) {
                wrong++;
                System.out.println("run " + run + ": " + String.join("; ", calls) + ", due is " + want);
                return;
            }
        }
        String differs = Calls.compareAll(hut, model);
        if (differs != null) {
            wrong++;
            System.out.println("run " + run + " at its end: " + differs);
        }
    }

    /** Numbers from a seed, by a linear congruence. */
    private static final class Numbers {
        private long state;

        Numbers(int seed) {
            state = seed * 7919L + 12345L;
            below(2);
            below(2);
        }

        int below(int bound) {
            state = state * 6364136223846793005L + 1442695040888963407L;
            return (int) ((state >>> 33) % bound);
        }

        int from(int lowest, int highest) {
            return lowest + below(highest - lowest + 1);
        }

        boolean once(int in) {
            return below(in) == 0;
        }
    }

    /** Calls as rows of numbers: which one, then its arguments. */
    private static final class Calls {
        private static final String[] NAMES = {
            "load", "fly", "book", "cancel", "storm", "clear", "sleep", "set", "lotOf", "storeOf", "partyOf",
            "count", "goneOn", "outOn", "most", "keep", "restore", "undo", "type", "clearText", "fault", "play"};
        private static final int[] ARGUMENTS = {
            3, 0, 3, 1, 2, 1, 1, 2, 3, 2, 2, 1, 1, 1, 2, 0, 0, 0, 1, 0, 1, 0};
        private static final int[] WEIGHTS = {
            14, 10, 14, 3, 3, 2, 8, 3, 5, 5, 5, 9, 4, 4, 4, 1, 1, 3, 40, 1, 6, 3};

        // most runs begin with a stocked hut, so that bookings are taken
        private static final int[][] STOCKING = {
            {7, 3, 9, 0}, {0, 0, 300, 40}, {0, 1, 60, 10}, {0, 2, 30, 90}, {0, 0, 40, 3}, {1, 0, 0, 0}};

        static int[] stocking(Numbers n, int step) {
            int[] call = STOCKING[step].clone();
            if (call[0] == 0) {
                call[2] = n.from(1, call[2]);
                call[3] = n.from(0, call[3]);
            }
            return call;
        }

        static String told(int[] call) {
            StringBuilder told = new StringBuilder(NAMES[call[0]]).append('(');
            for (int i = 0; i < ARGUMENTS[call[0]]; i++) {
                told.append(i > 0 ? ", " : "").append(call[i + 1]);
            }
            return told.append(')').toString();
        }

        static int[] choose(Numbers n, Model m, int style) {
            int[] call = new int[4];
            call[0] = which(n);
            if (call[0] == 18 && m.planned.isEmpty() && n.once(3)) {
                call[0] = m.fault(0) == -4 ? 21 : n.once(2) ? 20 : 19;
            }
            int today = m.state.day;
            // the styles differ in how far the days of bookings are ahead, and how soon lots spoil
            int far = new int[] {3, 6, 12, 30, 365, 8, 20, 4}[style];
            switch (call[0]) {
                case 0:
                    call[1] = n.below(3);
                    call[2] = n.once(3) ? n.from(1, 20) : n.once(4) ? n.from(900, 999) : n.from(1, 200);
                    call[3] = n.once(3) ? n.from(0, 5) : n.once(12) ? n.from(360, 365) : n.from(0, 40);
                    break;
                case 2:
                    call[1] = n.from(1, 6);
                    call[2] = today + n.below(far);
                    call[3] = n.from(1, n.once(3) ? 9 : 3);
                    break;
                case 3:
                    call[1] = n.from(0, Math.max(1, m.state.parties.size()));
                    break;
                case 4:
                    call[1] = today + n.below(far);
                    call[2] = n.from(1, n.once(6) ? 30 : 3);
                    break;
                case 5:
                    call[1] = today + n.below(far);
                    break;
                case 6:
                    call[1] = n.once(style == 4 ? 2 : 12) ? n.from(1, 60) : n.from(1, 2);
                    break;
                case 7:
                    call[1] = n.from(0, 3);
                    call[2] = call[1] == 0 ? n.from(1, n.once(2) ? 40 : 12) : call[1] == 1 ? n.from(1, 3)
                        : call[1] == 3 && !n.once(4) ? n.from(5, 9) : n.from(0, 9);
                    break;
                case 8:
                    call[1] = n.below(3);
                    call[2] = n.below(5);
                    call[3] = n.below(2);
                    break;
                case 9:
                    call[1] = n.below(3);
                    call[2] = n.below(6);
                    break;
                case 10:
                    call[1] = n.from(0, Math.max(1, m.state.parties.size()));
                    call[2] = n.below(7);
                    break;
                case 11:
                    call[1] = n.once(8) ? n.from(20, 23) : n.below(15);
                    break;
                case 12:
                    call[1] = n.from(0, Math.max(1, m.state.parties.size()));
                    break;
                case 13:
                    call[1] = n.below(3);
                    break;
                case 14:
                    call[1] = today + n.below(far);
                    call[2] = n.from(1, 9);
                    break;
                case 18:
                    call[1] = nextCharacter(n, m);
                    break;
                case 20:
                    call[1] = n.below(3);
                    break;
                default:
                    break;
            }
            spoil(n, call);
            return call;
        }

        private static int which(Numbers n) {
            int sum = 0;
            for (int weight : WEIGHTS) {
                sum += weight;
            }
            int left = n.below(sum);
            int which = 0;
            while (left >= WEIGHTS[which]) {
                left -= WEIGHTS[which];
                which++;
            }
            return which;
        }

        private static int nextCharacter(Numbers n, Model m) {
            if (m.planned.isEmpty() || n.once(60)) {
                m.planned = plan(n, m);
            }
            char next = m.planned.charAt(0);
            m.planned = m.planned.substring(1);
            return n.once(150) ? n.from(32, 126) : next;
        }

        private static String plan(Numbers n, Model m) {
            int today = m.state.day;
            switch (n.below(8)) {
                case 0:
                case 1:
                    return "l" + n.below(3) + "," + padded(n, n.from(1, 60)) + "," + n.below(20) + ";";
                case 2:
                    return "f;";
                case 3:
                case 4:
                    return "b" + n.from(1, 6) + "," + padded(n, today + n.below(5)) + "," + n.from(1, 4) + ";";
                case 5:
                    return "x" + n.from(0, m.state.parties.size()) + ";";
                case 6:
                    return "s" + (today + n.below(4)) + "," + padded(n, n.from(1, 2)) + ";";
                default:
                    return "n" + padded(n, n.from(1, 2)) + ";";
            }
        }

        private static String padded(Numbers n, int value) {
            String zeros = "000".substring(0, n.once(3) ? n.below(3) : 0);
            return zeros + value;
        }

        /** Sometimes an argument is one that is at an edge, or far out of its range. */
        private static void spoil(Numbers n, int[] call) {
            if (ARGUMENTS[call[0]] == 0 || !n.once(call[0] == 18 ? 100 : 14)) {
                return;
            }
            int[] odd = {-1, 0, 1, 2, 3, 4, 6, 7, 9, 10, 15, 16, 19, 20, 23, 24, 30, 31, 32, 40, 41, 60, 61, 126, 127,
                364, 365, 366, 394, 395, 396, 999, 1000, Integer.MAX_VALUE, Integer.MIN_VALUE};
            call[1 + n.below(ARGUMENTS[call[0]])] = odd[n.below(odd.length)];
        }

        static int onHut(GlacierHut x, int[] c) {
            switch (c[0]) {
                case 0: return x.load(c[1], c[2], c[3]);
                case 1: return x.fly();
                case 2: return x.book(c[1], c[2], c[3]);
                case 3: return x.cancel(c[1]);
                case 4: return x.storm(c[1], c[2]);
                case 5: return x.clear(c[1]);
                case 6: return x.sleep(c[1]);
                case 7: return x.set(c[1], c[2]);
                case 8: return x.lotOf(c[1], c[2], c[3]);
                case 9: return x.storeOf(c[1], c[2]);
                case 10: return x.partyOf(c[1], c[2]);
                case 11: return x.count(c[1]);
                case 12: return x.goneOn(c[1]);
                case 13: return x.outOn(c[1]);
                case 14: return x.most(c[1], c[2]);
                case 15: return x.keep();
                case 16: return x.restore();
                case 17: return x.undo();
                case 18: return x.type(c[1]);
                case 19: return x.clearText();
                case 20: return x.fault(c[1]);
                default: return x.play();
            }
        }

        static int onModel(Model m, int[] c) {
            switch (c[0]) {
                case 15: return m.keep();
                case 16: return m.restore();
                case 17: return m.undo();
                case 18: return m.type(c[1]);
                case 19: return m.clearText();
                case 20: return m.fault(c[1]);
                case 21: return m.play();
                case 11: return m.count(c[1]);
                case 8: return m.state.lotOf(c[1], c[2], c[3]);
                case 9: return m.state.storeOf(c[1], c[2]);
                case 10: return m.state.partyOf(c[1], c[2]);
                case 12: return m.state.goneOn(c[1]);
                case 13: return m.state.outOn(c[1]);
                case 14: return m.state.most(c[1], c[2]);
                default: return m.change(c);
            }
        }

        static String compareAll(GlacierHut x, Model m) {
            List<int[]> looks = new ArrayList<>();
            for (int a = 0; a <= 25; a++) {
                looks.add(new int[] {11, a, 0, 0});
                for (int b = 0; b <= 7; b++) {
                    looks.add(new int[] {10, a, b, 0});
                }
            }
            for (int kind = 0; kind < 3; kind++) {
                for (int b = 0; b <= 6; b++) {
                    looks.add(new int[] {9, kind, b, 0});
                }
                for (int b = 0; b <= 20; b++) {
                    looks.add(new int[] {8, kind, b, 0});
                    looks.add(new int[] {8, kind, b, 1});
                }
            }
            for (int[] look : looks) {
                int got = onHut(x, look);
                int want = onModel(m, look);
                if (got != want) {
                    return told(look) + " answered " + got + ", due is " + want;
                }
            }
            return null;
        }
    }

    private static final class Lot {
        final int kind;
        int amount;
        final int last;
        final int came;

        Lot(int kind, int amount, int last, int came) {
            this.kind = kind;
            this.amount = amount;
            this.last = last;
            this.came = came;
        }
    }

    private static final class Party {
        final int size;
        final int day;
        final int nights;
        int status;
        int slept;
        int arrived = -1;
        int left = -1;

        Party(int size, int day, int nights) {
            this.size = size;
            this.day = day;
            this.nights = nights;
        }

        Party copy() {
            Party copy = new Party(size, day, nights);
            copy.status = status;
            copy.slept = slept;
            copy.arrived = arrived;
            copy.left = left;
            return copy;
        }
    }

    /** All but the text, the snapshot and the history. */
    private static final class State {
        int day;
        int flights;
        int cameSoFar;
        int hungry;
        int cold;
        int guestNights;
        int cut;
        int squeezed;
        int[] settings = {12, 2, 3, 1};
        int[] brought = new int[3];
        int[] used = new int[3];
        int[] spoilt = new int[3];
        List<Lot> lots = new ArrayList<>();
        List<int[]> pallet = new ArrayList<>();
        List<Party> parties = new ArrayList<>();
        TreeSet<Integer> storms = new TreeSet<>();

        State copy() {
            State c = new State();
            c.day = day;
            c.flights = flights;
            c.cameSoFar = cameSoFar;
            c.hungry = hungry;
            c.cold = cold;
            c.guestNights = guestNights;
            c.cut = cut;
            c.squeezed = squeezed;
            c.settings = settings.clone();
            c.brought = brought.clone();
            c.used = used.clone();
            c.spoilt = spoilt.clone();
            for (Lot lot : lots) {
                c.lots.add(new Lot(lot.kind, lot.amount, lot.last, lot.came));
            }
            c.pallet.addAll(pallet);
            for (Party party : parties) {
                c.parties.add(party.copy());
            }
            c.storms.addAll(storms);
            return c;
        }

        private static boolean within(int value, int lowest, int highest) {
            return value >= lowest && value <= highest;
        }

        int load(int kind, int amount, int days) {
            if (!within(kind, 0, 2) || !within(amount, 1, 999) || !within(days, 0, 365)) {
                return -1;
            }
            if (pallet.size() == 6) {
                return -3;
            }
            pallet.add(new int[] {kind, amount, days});
            return pallet.size();
        }

        int fly() {
            if (pallet.isEmpty() || storms.contains(day) || flights >= settings[3]) {
                return -2;
            }
            if (lots.size() + pallet.size() > 20) {
                return -3;
            }
            for (int[] row : pallet) {
                lots.add(new Lot(row[0], row[1], day + row[2], cameSoFar++));
                brought[row[0]] += row[1];
            }
            int flown = pallet.size();
            pallet.clear();
            flights++;
            return flown;
        }

        boolean bookable(int size, int when, int nights) {
            return within(size, 1, 6) && within(when, day, 365) && within(nights, 1, 9);
        }

        boolean taken(int size, int when, int nights) {
            State would = copy();
            would.parties.add(new Party(size, when, nights));
            while (would.hasParties()) {
                would.night();
            }
            return would.squeezed == squeezed && would.hungry == hungry && would.cold == cold;
        }

        boolean hasParties() {
            return parties.stream().anyMatch(p -> p.status < 2);
        }

        int book(int size, int when, int nights) {
            if (!bookable(size, when, nights)) {
                return -1;
            }
            if (!taken(size, when, nights)) {
                return -2;
            }
            if (parties.size() == 16) {
                return -3;
            }
            parties.add(new Party(size, when, nights));
            return parties.size() - 1;
        }

        int cancel(int party) {
            if (!within(party, 0, parties.size() - 1)) {
                return -1;
            }
            if (parties.get(party).status != 0) {
                return -2;
            }
            parties.get(party).status = 3;
            return withStatus(0);
        }

        int withStatus(int status) {
            return (int) parties.stream().filter(p -> p.status == status).count();
        }

        int storm(int when, int days) {
            if (!within(when, day, 365) || !within(days, 1, 30)) {
                return -1;
            }
            TreeSet<Integer> then = new TreeSet<>(storms);
            for (int i = 0; i < days; i++) {
                then.add(when + i);
            }
            if (then.tailSet(day).size() > 40) {
                return -3;
            }
            storms = then;
            return then.tailSet(day).size();
        }

        int clear(int when) {
            if (!within(when, day, 395)) {
                return -1;
            }
            return storms.remove(when) ? 1 : 0;
        }

        int sleep(int nights) {
            if (!within(nights, 1, 60)) {
                return -1;
            }
            if (day + nights > 365) {
                return -3;
            }
            int before = hungry;
            for (int i = 0; i < nights; i++) {
                night();
            }
            return hungry - before;
        }

        int set(int what, int value) {
            int[][] ranges = {{1, 40}, {1, 3}, {0, 9}, {0, 9}};
            if (!within(what, 0, 3) || !within(value, ranges[what][0], ranges[what][1])) {
                return -1;
            }
            int was = settings[what];
            settings[what] = value;
            return was;
        }

        int guests() {
            return parties.stream().filter(p -> p.status == 1).mapToInt(p -> p.size).sum();
        }

        List<Lot> ofKind(int kind) {
            List<Lot> found = new ArrayList<>();
            for (Lot lot : lots) {
                if (lot.kind == kind) {
                    found.add(lot);
                }
            }
            found.sort(Comparator.<Lot>comparingInt(lot -> lot.last).thenComparingInt(lot -> lot.came));
            return found;
        }

        int stock(int kind) {
            return ofKind(kind).stream().mapToInt(lot -> lot.amount).sum();
        }

        /** One unit after the other; returns how many there were not. */
        int use(int kind, int units) {
            for (int i = 0; i < units; i++) {
                List<Lot> there = ofKind(kind);
                if (there.isEmpty()) {
                    return units - i;
                }
                Lot first = there.get(0);
                first.amount--;
                used[kind]++;
                if (first.amount == 0) {
                    lots.remove(first);
                }
            }
            return 0;
        }

        void night() {
            boolean storm = storms.contains(day);
            for (Party party : parties) {
                if (!storm && party.status == 1 && party.slept >= party.nights) {
                    party.status = 2;
                    party.left = day;
                }
            }
            for (Party party : parties) {
                if (party.status == 0 && party.day <= day) {
                    come(party, storm);
                }
            }
            int guests = guests();
            if (guests > 0) {
                supper(guests);
                if (use(2, (int) Math.ceil(guests / 4.0) + (storm ? 1 : 0)) > 0) {
                    cold++;
                }
            }
            guestNights += guests;
            for (Party party : parties) {
                party.slept += party.status == 1 ? 1 : 0;
            }
            for (Lot lot : new ArrayList<>(lots)) {
                if (lot.last <= day) {
                    spoilt[lot.kind] += lot.amount;
                    lots.remove(lot);
                }
            }
            day++;
        }

        void come(Party party, boolean storm) {
            if (party.day + party.nights <= day) {
                party.status = 3;
            } else if (!storm) {
                if (guests() + party.size <= settings[0]) {
                    party.status = 1;
                    party.arrived = day;
                } else {
                    party.status = 3;
                    squeezed++;
                }
            }
        }

        void supper(int guests) {
            int ration = settings[1];
            if (stock(0) < settings[2] * guests * settings[1]) {
                ration = 1;
            }
            if (ration != settings[1]) {
                cut++;
            }
            int portions = ration * guests + use(1, guests);
            hungry += Math.min(guests, use(0, portions));
        }

        int lotOf(int kind, int index, int what) {
            if (!within(kind, 0, 2) || !within(what, 0, 1) || index < 0) {
                return -1;
            }
            List<Lot> there = ofKind(kind);
            if (index >= there.size()) {
                return -4;
            }
            return what == 0 ? there.get(index).amount : there.get(index).last;
        }

        int storeOf(int kind, int what) {
            if (!within(kind, 0, 2) || !within(what, 0, 5)) {
                return -1;
            }
            int onPallet = 0;
            for (int[] row : pallet) {
                onPallet += row[0] == kind ? row[1] : 0;
            }
            return new int[] {stock(kind), brought[kind], used[kind], spoilt[kind], ofKind(kind).size(), onPallet}[what];
        }

        int partyOf(int number, int what) {
            if (!within(number, 0, parties.size() - 1) || !within(what, 0, 6)) {
                return -1;
            }
            Party p = parties.get(number);
            if (what == 5 && p.arrived < 0) {
                return -4;
            }
            int beyond = p.slept > p.nights ? p.slept - p.nights : 0;
            return new int[] {p.size, p.day, p.nights, p.status, p.slept, p.arrived, beyond}[what];
        }

        int goneOn(int number) {
            if (!within(number, 0, parties.size() - 1)) {
                return -1;
            }
            if (parties.get(number).status > 1) {
                return -2;
            }
            State would = copy();
            while (would.hasParties()) {
                would.night();
            }
            int left = would.parties.get(number).left;
            return left < 0 ? -4 : left;
        }

        int outOn(int kind) {
            if (!within(kind, 0, 2)) {
                return -1;
            }
            State would = copy();
            while (would.hasParties()) {
                int today = would.day;
                would.night();
                if (would.stock(kind) == 0) {
                    return today;
                }
            }
            return -4;
        }

        int most(int when, int nights) {
            if (!bookable(1, when, nights)) {
                return -1;
            }
            if (parties.size() == 16) {
                return -3;
            }
            int most = 0;
            for (int size = 1; size <= 6; size++) {
                if (taken(size, when, nights)) {
                    most = size;
                }
            }
            return most;
        }
    }

    private static final class Model {
        private static final Pattern FORM = Pattern.compile(
            "(l|b)(\\d{1,3}),(\\d{1,3}),(\\d{1,3});|(f);|(x|n)(\\d{1,3});|(s)(\\d{1,3}),(\\d{1,3});");

        State state = new State();
        State snapshot = null;
        List<State> history = new ArrayList<>();
        String text = "";
        // what the chooser of calls wants to type next
        String planned = "";

        static int changed(State s, int which, int a, int b, int c) {
            switch (which) {
                case 0: return s.load(a, b, c);
                case 1: return s.fly();
                case 2: return s.book(a, b, c);
                case 3: return s.cancel(a);
                case 4: return s.storm(a, b);
                case 5: return s.clear(a);
                case 6: return s.sleep(a);
                default: return s.set(a, b);
            }
        }

        int change(int[] call) {
            State before = state.copy();
            int answer = changed(state, call[0], call[1], call[2], call[3]);
            if (answer >= 0) {
                record(before);
            } else {
                state = before;
            }
            return answer;
        }

        void record(State before) {
            history.add(before);
            if (history.size() == 5) {
                history.remove(0);
            }
        }

        int keep() {
            snapshot = state.copy();
            return state.day;
        }

        int restore() {
            if (snapshot == null) {
                return -2;
            }
            record(state);
            state = snapshot.copy();
            return state.day;
        }

        int undo() {
            if (history.isEmpty()) {
                return -2;
            }
            state = history.remove(history.size() - 1);
            return history.size();
        }

        int type(int character) {
            if (character < 32 || character > 126) {
                return -1;
            }
            if (text.length() == 60) {
                return -3;
            }
            text += (char) character;
            return text.length();
        }

        int clearText() {
            int had = text.length();
            text = "";
            return had;
        }

        /** Position, reason and cause of the fault, or only how many commands were done. */
        int[] tryText(State on) {
            int at = 0;
            int done = 0;
            while (at < text.length()) {
                Matcher form = FORM.matcher(text).region(at, text.length());
                if (!form.lookingAt()) {
                    return new int[] {at, 1, -4};
                }
                int answer = obey(on, form);
                if (answer < 0) {
                    return new int[] {at, 2, answer};
                }
                at = form.end();
                done++;
            }
            return new int[] {done};
        }

        private static int obey(State on, Matcher form) {
            if (form.group(1) != null) {
                int which = form.group(1).equals("l") ? 0 : 2;
                return changed(on, which, number(form, 2), number(form, 3), number(form, 4));
            }
            if (form.group(5) != null) {
                return on.fly();
            }
            if (form.group(6) != null) {
                return changed(on, form.group(6).equals("x") ? 3 : 6, number(form, 7), 0, 0);
            }
            return on.storm(number(form, 9), number(form, 10));
        }

        private static int number(Matcher form, int group) {
            return Integer.parseInt(form.group(group));
        }

        int fault(int what) {
            if (what < 0 || what > 2) {
                return -1;
            }
            int[] found = tryText(state.copy());
            return found.length == 1 ? -4 : found[what];
        }

        int play() {
            State then = state.copy();
            int[] found = tryText(then);
            if (found.length == 3) {
                return -2;
            }
            record(state);
            state = then;
            return found[0];
        }

        int count(int what) {
            State s = state;
            if (what >= 20 && what <= 23) {
                return s.settings[what - 20];
            }
            if (what < 0 || what > 14) {
                return -1;
            }
            return new int[] {s.parties.size(), s.withStatus(0), s.withStatus(1), s.guests(), s.day,
                s.storms.contains(s.day) ? 1 : 0, s.flights, s.pallet.size(), s.hungry, s.cold, s.guestNights, s.cut,
                history.size(), text.length(), snapshot == null ? 0 : 1}[what];
        }
    }
}
