/** A coast from which the sea takes parcels: ../shared/DOC.md tells what each call answers. */
public final class SeaParcels {
    private static final int LOW = -1000001;
    private static final int BEYOND = LOW;
    private static final int FULL = LOW - 1;
    private static final int KIND = LOW - 2;
    private static final int NONE = LOW - 3;
    private static final int STATE = LOW - 4;
    private static final int MISSING = LOW - 5;
    private static final int SIZE = LOW - 6;
    private static final int FINDINGS = 7;

    private static final int PARCEL = 0;
    private static final int LETTER = 1;
    private static final int CRATE = 2;
    private static final int CLOCK = 3;
    private static final int BRIDE = 4;
    private static final int SOCKS = 5;
    private static final int REGISTERED = 6;
    private static final int NO_KIND = -1;

    private static final int LIES = 0;
    private static final int TAKEN = 1;
    private static final int SPOILT = 2;

    private static final int OF_KIND = 0;
    private static final int OF_LINE = 1;
    private static final int OF_WEIGHT = 2;
    private static final int OF_WAITS = 3;
    private static final int OF_STATE = 4;
    private static final int OF_HELD = 5;
    private static final int OF_TURNED = 6;
    private static final int OF_MOVES = 7;
    private static final int OF_LASTS = 8;
    private static final int OF_PAYS = 9;
    private static final int OF_DELAYS = 10;

    private static final int PLACES = 6;
    private static final int TIDE_MOST = 20;
    private static final int TIDES = TIDE_MOST + 1;
    private static final int STORM_MOST = 9;
    private static final int LINE_MOST = 20;
    private static final int WEIGHT_MOST = 99;
    private static final int WAITS_MOST = 9999;
    private static final int TURNED_MOST = 9999;
    private static final int LATE_MOST = 9999;
    private static final int AMBER_MOST = 99999;
    private static final int DAY_MOST = 99999;
    private static final int PARCELS_MOST = 8;
    private static final int SPOTS = 10;
    private static final int NOTHING = -1;
    private static final int SHEETS = 4;
    private static final int NUMBERS_MOST = 40;
    private static final int ANY_LINE = -1;
    private static final int TAPE_MOST = 120;
    private static final int LOOK_MOST = 100;
    private static final int SEARCH_MOST = 200;
    private static final int SEND_MOST = 60;

    private final Coast coast = new Coast();
    /** Where what will be is tried out, so that the coast itself stays as it is. */
    private final Coast trial = new Coast();
    private final Coast kept = new Coast();
    private boolean keeps = false;
    private final Tape tape = new Tape();
    private final Sheet[] sheets = new Sheet[SHEETS];
    private final int[] found = new int[FINDINGS];

    public SeaParcels() {
        for (int s = 0; s < sheets.length; s++) {
            sheets[s] = new Sheet();
        }
    }

    // ---- coast, parcels

    public int tide(int i, int v) {
        if (isOut(i, 0, PLACES - 1) || isOut(v, 0, TIDE_MOST)) {
            return finding(BEYOND);
        }
        int was = coast.list[i];
        coast.list[i] = v;
        return was;
    }

    public int listed(int i) {
        if (isOut(i, 0, PLACES - 1)) {
            return finding(BEYOND);
        }
        return coast.list[i];
    }

    public int set(int what, int v) {
        if (what == 0 && !isOut(v, 0, LATE_MOST)) {
            int was = coast.late;
            coast.late = v;
            return was;
        }
        if (what == 1 && !isOut(v, 0, STORM_MOST)) {
            int was = coast.storm;
            coast.storm = v;
            return was;
        }
        return finding(BEYOND);
    }

    public int parcel(int kind, int line) {
        if (isOut(kind, PARCEL, REGISTERED) || isOut(line, 0, LINE_MOST)) {
            return finding(BEYOND);
        }
        Parcel p = coast.lay(kind);
        if (p == null) {
            return finding(FULL);
        }
        p.line = line;
        return coast.laid - 1;
    }

    public int of(int parcel, int what) {
        if (isNoParcel(parcel) || isOut(what, OF_KIND, OF_DELAYS)) {
            return finding(BEYOND);
        }
        return coast.slip[parcel].told(what);
    }

    public int change(int parcel, int what, int v) {
        if (isNoParcel(parcel) || isOut(what, OF_KIND, OF_TURNED)
                || isOut(v, Parcel.least(what), Parcel.most(what))) {
            return finding(BEYOND);
        }
        int was = coast.slip[parcel].told(what);
        coast.slip[parcel].put(what, v);
        return was;
    }

    public int signs(int parcel, int tide) {
        if (isNoParcel(parcel) || isOut(tide, 0, TIDE_MOST + STORM_MOST)) {
            return finding(BEYOND);
        }
        return coast.slip[parcel].isSignedFor(tide, coast.day) ? 1 : 0;
    }

    public int onLine(int line) {
        if (isOut(line, 0, LINE_MOST)) {
            return finding(BEYOND);
        }
        return coast.lyingOn(line);
    }

    // ---- days

    public int go(int n) {
        if (isOut(n, 1, 60)) {
            return finding(BEYOND);
        }
        if (coast.day > DAY_MOST - n) {
            return finding(STATE);
        }
        coast.passDays(n);
        return coast.allThatAre(TAKEN);
    }

    public int now(int what) {
        switch (what) {
            case 0: return coast.day;
            case 1: return coast.amber;
            case 2: return coast.late;
            case 3: return coast.allThatAre(LIES);
            case 4: return coast.allThatAre(TAKEN);
            case 5: return coast.allThatAre(SPOILT);
            case 6: return coast.tideOfDay();
            case 7: return coast.weightThatLies();
            default: return finding(BEYOND);
        }
    }

    // ---- what will be (nothing changes)

    public int ahead(int parcel, int what, int n) {
        boolean told = what == OF_LINE || what == OF_WAITS || what == OF_STATE || what == OF_TURNED;
        if (isNoParcel(parcel) || !told || isOut(n, 0, LOOK_MOST)) {
            return finding(BEYOND);
        }
        Parcel p = tried(parcel);
        trial.passDays(n);
        return p.told(what);
    }

    public int sea(int what, int n) {
        boolean told = what == 1 || what == 2 || what == 6;
        if (!told || isOut(n, 0, LOOK_MOST)) {
            return finding(BEYOND);
        }
        trial.becomeAs(coast);
        trial.passDays(n);
        if (what == 1) {
            return trial.amber;
        }
        return what == 2 ? trial.late : trial.tideOfDay();
    }

    public int when(int parcel, int state) {
        if (isNoParcel(parcel) || isOut(state, TAKEN, SPOILT)) {
            return finding(BEYOND);
        }
        Parcel p = tried(parcel);
        for (int n = 0; n <= SEARCH_MOST; n++) {
            if (p.state == state) {
                return n;
            }
            trial.passDay();
        }
        return finding(NONE);
    }

    public int cleared() {
        trial.becomeAs(coast);
        for (int n = 0; n <= SEARCH_MOST; n++) {
            if (trial.allThatAre(LIES) == 0) {
                return n;
            }
            trial.passDay();
        }
        return finding(NONE);
    }

    public int paid(int v) {
        if (isOut(v, 0, AMBER_MOST)) {
            return finding(BEYOND);
        }
        trial.becomeAs(coast);
        for (int n = 0; n <= SEARCH_MOST; n++) {
            if (trial.amber >= v) {
                return n;
            }
            trial.passDay();
        }
        return finding(NONE);
    }

    // ---- how to send

    public int lineFor(int parcel, int n) {
        if (isNoParcel(parcel) || isOut(n, 0, SEND_MOST)) {
            return finding(BEYOND);
        }
        for (int line = LINE_MOST; line >= 0; line--) {
            Parcel p = tried(parcel);
            p.line = line;
            if (isTakenOnTrial(p, n)) {
                return line;
            }
        }
        return finding(NONE);
    }

    public int weightFor(int parcel, int n) {
        if (isNoParcel(parcel) || isOut(n, 0, SEND_MOST)) {
            return finding(BEYOND);
        }
        for (int weight = WEIGHT_MOST; weight >= 1; weight--) {
            // The sea can't tell some weights apart: the greatest of these has answered for them all.
            if (weight < WEIGHT_MOST && Parcel.weighAlike(weight, weight + 1)) {
                continue;
            }
            Parcel p = tried(parcel);
            p.weight = weight;
            if (isTakenOnTrial(p, n)) {
                return weight;
            }
        }
        return finding(NONE);
    }

    public int kindFor(int parcel, int n) {
        if (isNoParcel(parcel) || isOut(n, 0, SEND_MOST)) {
            return finding(BEYOND);
        }
        int best = PARCEL;
        int most = -1;
        for (int kind = PARCEL; kind <= REGISTERED; kind++) {
            Parcel p = tried(parcel);
            p.kind = kind;
            trial.passDays(n);
            if (trial.amber > most) {
                most = trial.amber;
                best = kind;
            }
        }
        return best;
    }

    public int stormFor(int parcel, int n) {
        if (isNoParcel(parcel) || isOut(n, 0, SEND_MOST)) {
            return finding(BEYOND);
        }
        for (int storm = 0; storm <= STORM_MOST; storm++) {
            Parcel p = tried(parcel);
            trial.storm = storm;
            if (isTakenOnTrial(p, n)) {
                return storm;
            }
        }
        return finding(NONE);
    }

    public int holdBack(int n) {
        if (isOut(n, 0, 20)) {
            return finding(BEYOND);
        }
        // While LATE stays, no parcel sways another: so each that would make it later must be
        // held back, and no other need be. (All held back always do: NONE can't come.)
        trial.becomeAs(coast);
        int set = 0;
        for (int i = 0; i < n; i++) {
            int lay = trial.allThatAre(LIES);
            trial.passDay();
            if (trial.late != coast.late) {
                set |= trial.delaying(lay & trial.allThatAre(TAKEN));
                trial.late = coast.late;
            }
        }
        return set;
    }

    // ---- told places

    public int fits(int s, int parcel) {
        return allAsTold(s, parcel, OF_LINE);
    }

    public int kinds(int s, int parcel) {
        return allAsTold(s, parcel, OF_KIND);
    }

    // ---- tides by draws

    public int swell(int n) {
        if (isOut(n, 1, 20)) {
            return finding(BEYOND);
        }
        if (coast.day > DAY_MOST - n) {
            return finding(STATE);
        }
        for (int i = 0; i < n; i++) {
            int place = coast.nextDraw() % PLACES;
            coast.list[place] = coast.nextDraw() % TIDES;
            coast.passDay();
        }
        return coast.allThatAre(TAKEN);
    }

    public long odds(int parcel, int n, int what) {
        if (isNoParcel(parcel) || isOut(n, 0, 13) || isOut(what, 0, 1)) {
            return finding(BEYOND);
        }
        int refused = 0;
        for (int t = 0; t <= TIDE_MOST; t++) {
            if (!coast.slip[parcel].isSignedFor(t, coast.day)) {
                refused++;
            }
        }
        int divisor = TIDES;
        while (divisor > 1 && (refused % divisor != 0 || TIDES % divisor != 0)) {
            divisor--;
        }
        long one = what == 0 ? refused / divisor : TIDES / divisor;
        long all = 1;
        for (int i = 0; i < n; i++) {
            all *= one;
        }
        return all;
    }

    public int seed(int v) {
        int was = coast.z;
        coast.z = v;
        return was;
    }

    // ---- texts

    public int feed(int bytes, int n) {
        if (isOut(n, 1, 4)) {
            return finding(BEYOND);
        }
        if (tape.length + n > TAPE_MOST) {
            return finding(FULL);
        }
        for (int i = n - 1; i >= 0; i--) {
            tape.append((byte) (bytes >> (8 * i)));
        }
        return tape.length;
    }

    public int wipe() {
        int had = tape.length;
        tape.length = 0;
        return had;
    }

    public int text() {
        trial.becomeAs(coast);
        int answer = tape.tell(trial);
        if (answer >= 0) {
            coast.becomeAs(trial);
        }
        tape.length = 0;
        return answer;
    }

    // ---- spots, sheets

    public int hold(int spot, int parcel) {
        if (isOut(spot, 0, SPOTS - 1) || (parcel != NOTHING && isNoParcel(parcel))) {
            return finding(BEYOND);
        }
        coast.spots[spot] = parcel;
        return 1;
    }

    public int as(int spot, int kind) {
        if (isOut(spot, 0, SPOTS - 1) || isOut(kind, PARCEL, REGISTERED)) {
            return finding(BEYOND);
        }
        int parcel = coast.spots[spot];
        if (isNoParcel(parcel)) {
            return finding(MISSING);
        }
        return coast.slip[parcel].isA(kind) ? parcel : finding(KIND);
    }

    public int sheet(int s, int bits, int n) {
        if (isNoSheet(s) || (bits != 0 && bits != 8 && bits != 16 && bits != 32)) {
            return finding(BEYOND);
        }
        if (n < 0) {
            return finding(SIZE);
        }
        if (n > NUMBERS_MOST) {
            return finding(BEYOND);
        }
        sheets[s].begin(bits, n);
        return sheets[s].length;
    }

    public int write(int s, int i, int v) {
        int wrong = wrongSheet(s);
        if (wrong != 0) {
            return finding(wrong);
        }
        if (isOut(i, 0, sheets[s].length - 1)) {
            return finding(BEYOND);
        }
        sheets[s].put(i, v);
        return 1;
    }

    public int copy(int s, int from, int t, int to, int n) {
        if (isNoSheet(s) || isNoSheet(t)) {
            return finding(BEYOND);
        }
        Sheet a = sheets[s];
        Sheet b = sheets[t];
        if (a.isMissing() || b.isMissing()) {
            return finding(MISSING);
        }
        if (a.bits != b.bits) {
            return finding(KIND);
        }
        if (a.hasNot(from, n) || b.hasNot(to, n)) {
            return finding(BEYOND);
        }
        System.arraycopy(a.numbers, from, b.numbers, to, n);
        return n;
    }

    public int load(int s) {
        int wrong = wrongSheet(s);
        if (wrong != 0) {
            return finding(wrong);
        }
        Sheet a = sheets[s];
        int came = 0;
        while (came < a.length && came < PLACES && !isOut(a.numbers[came], 0, TIDE_MOST)) {
            coast.list[came] = a.numbers[came];
            came++;
        }
        return came;
    }

    public int judge(int s) {
        int wrong = wrongSheet(s);
        if (wrong != 0) {
            return finding(wrong);
        }
        Sheet a = sheets[s];
        for (int i = 0; i < a.length; i++) {
            if (isNoParcel(i) || coast.slip[i].line != a.numbers[i]) {
                return 1 + i;
            }
        }
        return 0;
    }

    // ---- images

    public int image() {
        kept.becomeAs(coast);
        keeps = true;
        return 1;
    }

    public int undo() {
        if (!keeps) {
            return finding(NONE);
        }
        coast.becomeAs(kept);
        return coast.day;
    }

    public int tear() {
        int was = keeps ? 1 : 0;
        keeps = false;
        return was;
    }

    public int count(int what) {
        switch (what) {
            case 0: return coast.day;
            case 1: return coast.laid;
            case 2: return coast.amber;
            case 3: return coast.late;
            case 4: return Integer.bitCount(coast.allThatAre(TAKEN));
            case 5: return tape.length;
            case 6: return coast.z;
            case 7: return coast.spotsThatHold();
            default: return finding(BEYOND);
        }
    }

    public int status(int which) {
        if (isOut(which, -1, FINDINGS - 1)) {
            return finding(BEYOND);
        }
        if (which >= 0) {
            return found[which];
        }
        int all = 0;
        for (int one : found) {
            all += one;
        }
        return all;
    }

    // ---- what the calls share

    private int finding(int which) {
        int i = LOW - which;
        if (!isOut(i, 0, FINDINGS - 1)) {
            found[i]++;
        }
        return which;
    }

    private static boolean isOut(int v, int least, int most) {
        return v < least || v > most;
    }

    private boolean isNoParcel(int parcel) {
        return isOut(parcel, 0, coast.laid - 1);
    }

    private static boolean isNoSheet(int s) {
        return isOut(s, 0, SHEETS - 1);
    }

    /** The finding that a sheet gives, or 0. */
    private int wrongSheet(int s) {
        if (isNoSheet(s)) {
            return BEYOND;
        }
        return sheets[s].isMissing() ? MISSING : 0;
    }

    /** A parcel that there is, on a trial that begins as the coast is now. */
    private Parcel tried(int parcel) {
        trial.becomeAs(coast);
        return trial.slip[parcel];
    }

    private boolean isTakenOnTrial(Parcel p, int n) {
        for (int i = 0; i < n && p.state == LIES; i++) {
            trial.passDay();
        }
        return p.state == TAKEN;
    }

    /** What a parcel could have now, of what there is from 0 on, to lie where a sheet tells: as a set. */
    private int allAsTold(int s, int parcel, int what) {
        int wrong = wrongSheet(s);
        if (wrong != 0) {
            return finding(wrong);
        }
        if (isNoParcel(parcel)) {
            return finding(BEYOND);
        }
        int set = 0;
        for (int v = 0; v <= Parcel.most(what); v++) {
            Parcel p = tried(parcel);
            p.put(what, v);
            if (isAsTold(p, sheets[s])) {
                set |= 1 << v;
            }
        }
        return set;
    }

    private boolean isAsTold(Parcel p, Sheet lines) {
        for (int i = 0; i < lines.length; i++) {
            trial.passDay();
            int told = lines.numbers[i];
            if (told != ANY_LINE && told != p.line) {
                return false;
            }
        }
        return true;
    }

    /** One parcel, with what its kind makes of it. */
    private static final class Parcel {
        int kind;
        int line;
        int weight;
        int waits;
        int state;
        int held;
        int turned;

        void beNew(int itsKind) {
            kind = itsKind;
            line = 0;
            weight = 10;
            waits = 0;
            state = LIES;
            held = 0;
            turned = 0;
        }

        void becomeAs(Parcel other) {
            kind = other.kind;
            line = other.line;
            weight = other.weight;
            waits = other.waits;
            state = other.state;
            held = other.held;
            turned = other.turned;
        }

        int told(int what) {
            switch (what) {
                case OF_KIND: return kind;
                case OF_LINE: return line;
                case OF_WEIGHT: return weight;
                case OF_WAITS: return waits;
                case OF_STATE: return state;
                case OF_HELD: return held;
                case OF_TURNED: return turned;
                case OF_MOVES: return moves(kind);
                case OF_LASTS: return lasts(kind);
                case OF_PAYS: return pays(kind, weight);
                default: return delays(kind);
            }
        }

        void put(int what, int v) {
            switch (what) {
                case OF_KIND: kind = v; break;
                case OF_LINE: line = v; break;
                case OF_WEIGHT: weight = v; break;
                case OF_WAITS: waits = v; break;
                case OF_STATE: state = v; break;
                case OF_HELD: held = v; break;
                case OF_TURNED: turned = v; break;
                default: break;
            }
        }

        static int least(int what) {
            return what == OF_WEIGHT ? 1 : 0;
        }

        static int most(int what) {
            switch (what) {
                case OF_KIND: return REGISTERED;
                case OF_LINE: return LINE_MOST;
                case OF_WEIGHT: return WEIGHT_MOST;
                case OF_WAITS: return WAITS_MOST;
                case OF_STATE: return SPOILT;
                case OF_HELD: return 1;
                default: return TURNED_MOST;
            }
        }

        /** The kind that a kind is under. */
        static int over(int kind) {
            switch (kind) {
                case LETTER: return PARCEL;
                case CRATE: return PARCEL;
                case CLOCK: return CRATE;
                case BRIDE: return CLOCK;
                case SOCKS: return PARCEL;
                case REGISTERED: return LETTER;
                default: return NO_KIND;
            }
        }

        boolean isA(int sought) {
            int k = kind;
            for (int i = 0; i <= REGISTERED && k != NO_KIND; i++) {
                if (k == sought) {
                    return true;
                }
                k = over(k);
            }
            return false;
        }

        boolean isSignedFor(int t, int day) {
            switch (kind) {
                case LETTER: return t >= line && isStoned(weight);
                case REGISTERED: return t >= line && isStoned(weight) && day % 2 == 0;
                case CRATE: return t >= line + sinks(weight);
                case CLOCK: return t >= line + sinks(weight);
                case BRIDE: return t >= line + sinks(weight) && turned >= 7;
                case SOCKS: return t > 0;
                default: return t >= line;
            }
        }

        private static boolean isStoned(int weight) {
            return weight >= 5;
        }

        private static int sinks(int weight) {
            return weight / 20;
        }

        static boolean weighAlike(int a, int b) {
            return isStoned(a) == isStoned(b) && sinks(a) == sinks(b);
        }

        boolean isTouched(int t) {
            return t >= line - 3 && t > 0;
        }

        static int moves(int kind) {
            switch (kind) {
                case LETTER: return 1;
                case REGISTERED: return 1;
                case CRATE: return 1;
                case CLOCK: return 1;
                case BRIDE: return 0;
                case SOCKS: return 5;
                default: return 2;
            }
        }

        static int lasts(int kind) {
            switch (kind) {
                case LETTER: return 36;
                case REGISTERED: return 66;
                case CRATE: return 24;
                case CLOCK: return 24;
                case BRIDE: return 9999;
                case SOCKS: return 15;
                default: return 12;
            }
        }

        static int pays(int kind, int weight) {
            int tenth = weight / 10;
            switch (kind) {
                case LETTER: return 0;
                case REGISTERED: return 5;
                case CRATE: return 2 * tenth;
                case CLOCK: return 2 * tenth + 10;
                case BRIDE: return 3 * (2 * tenth + 10);
                case SOCKS: return 1;
                default: return tenth;
            }
        }

        static int delays(int kind) {
            switch (kind) {
                case CLOCK: return 1;
                case BRIDE: return 2;
                default: return 0;
            }
        }

        void turnOver() {
            turned = Math.min(turned + 1, TURNED_MOST);
            line = Math.min(line + moves(kind), LINE_MOST);
        }

        void waitOneDay() {
            waits = Math.min(waits + 1, WAITS_MOST);
            if (waits > lasts(kind)) {
                state = SPOILT;
            }
        }
    }

    /** All that an image keeps. */
    private static final class Coast {
        final int[] list = new int[PLACES];
        int late = 0;
        int storm = 0;
        int amber = 0;
        int day = 0;
        int z = 1;
        int laid = 0;
        final Parcel[] slip = new Parcel[PARCELS_MOST];
        final int[] spots = new int[SPOTS];

        Coast() {
            for (int i = 0; i < slip.length; i++) {
                slip[i] = new Parcel();
            }
            for (int i = 0; i < spots.length; i++) {
                spots[i] = NOTHING;
            }
        }

        void becomeAs(Coast other) {
            System.arraycopy(other.list, 0, list, 0, PLACES);
            late = other.late;
            storm = other.storm;
            amber = other.amber;
            day = other.day;
            z = other.z;
            laid = other.laid;
            for (int i = 0; i < laid; i++) {
                slip[i].becomeAs(other.slip[i]);
            }
            System.arraycopy(other.spots, 0, spots, 0, SPOTS);
        }

        /** A new parcel, or null if the slip is full. */
        Parcel lay(int kind) {
            if (laid >= slip.length) {
                return null;
            }
            Parcel p = slip[laid];
            p.beNew(kind);
            laid++;
            return p;
        }

        int tideOfDay() {
            return list[(day + late) % PLACES] + storm;
        }

        void passDays(int n) {
            for (int i = 0; i < n; i++) {
                passDay();
            }
        }

        void passDay() {
            int t = tideOfDay();
            for (int i = 0; i < laid; i++) {
                Parcel p = slip[i];
                if (p.state == LIES && p.held == 0) {
                    meet(p, t);
                }
                if (p.state == LIES) {
                    p.waitOneDay();
                }
            }
            day = Math.min(day + 1, DAY_MOST);
        }

        private void meet(Parcel p, int t) {
            if (p.isSignedFor(t, day)) {
                p.state = TAKEN;
                amber = Math.min(amber + Parcel.pays(p.kind, p.weight), AMBER_MOST);
                late = Math.min(late + Parcel.delays(p.kind), LATE_MOST);
            } else if (p.isTouched(t)) {
                p.turnOver();
            }
        }

        int nextDraw() {
            z = z * 1103515245 + 12345;
            return z >>> 8;
        }

        int allThatAre(int state) {
            int set = 0;
            for (int i = 0; i < laid; i++) {
                if (slip[i].state == state) {
                    set |= 1 << i;
                }
            }
            return set;
        }

        int lyingOn(int line) {
            int set = 0;
            for (int i = 0; i < laid; i++) {
                if (slip[i].state == LIES && slip[i].line == line) {
                    set |= 1 << i;
                }
            }
            return set;
        }

        /** Those of a set that make LATE more when they are taken. */
        int delaying(int among) {
            int set = 0;
            for (int i = 0; i < laid; i++) {
                if (Parcel.delays(slip[i].kind) > 0) {
                    set |= among & (1 << i);
                }
            }
            return set;
        }

        int weightThatLies() {
            int all = 0;
            for (int i = 0; i < laid; i++) {
                if (slip[i].state == LIES) {
                    all += slip[i].weight;
                }
            }
            return all;
        }

        int spotsThatHold() {
            int all = 0;
            for (int parcel : spots) {
                if (parcel != NOTHING) {
                    all++;
                }
            }
            return all;
        }
    }

    /** A row of numbers, all of as many bits; of no bits if it is missing. */
    private static final class Sheet {
        int bits = 0;
        int length = 0;
        final int[] numbers = new int[NUMBERS_MOST];

        boolean isMissing() {
            return bits == 0;
        }

        void begin(int itsBits, int n) {
            bits = itsBits;
            length = itsBits == 0 ? 0 : n;
            for (int i = 0; i < numbers.length; i++) {
                numbers[i] = 0;
            }
        }

        void put(int i, int v) {
            if (bits == 8) {
                numbers[i] = (byte) v;
            } else if (bits == 16) {
                numbers[i] = (short) v;
            } else {
                numbers[i] = v;
            }
        }

        boolean hasNot(int from, int n) {
            return from < 0 || n < 0 || from > length - n;
        }
    }

    /** The bytes of a text, and the token at which the reading of it stands. */
    private static final class Tape {
        private static final int END = 0;
        private static final int WORD = 1;
        private static final int NUMBER = 2;
        private static final int SIGN = 3;
        private static final int OTHER = 4;
        private static final int NUMBER_MOST = 999;

        final byte[] bytes = new byte[TAPE_MOST];
        int length = 0;
        private int sort = END;
        private int start = 0;
        private int end = 0;
        private int value = 0;

        void append(byte b) {
            if (length < bytes.length) {
                bytes[length] = b;
                length++;
            }
        }

        /** All that the text tells becomes so on a coast: how many items, or -1 less the fault. */
        int tell(Coast coast) {
            end = 0;
            step();
            // No item is shorter than a byte, so there are fewer than this.
            for (int items = 1; items <= TAPE_MOST; items++) {
                if (!tellItem(coast)) {
                    break;
                }
                if (sort == END) {
                    return items;
                }
                if (sort != SIGN) {
                    break;
                }
                step();
            }
            // Nothing steps over a token that can't stand there: it is where the reading ended.
            return -1 - start;
        }

        private boolean tellItem(Coast coast) {
            if (passes("tide")) {
                return tellTide(coast);
            }
            if (passes("storm")) {
                return tellStorm(coast);
            }
            for (int kind = PARCEL; kind <= REGISTERED; kind++) {
                if (isWord(wordOf(kind))) {
                    return tellParcel(coast, kind);
                }
            }
            return false;
        }

        private boolean tellTide(Coast coast) {
            if (!isNumber(0, PLACES - 1)) {
                return false;
            }
            int place = value;
            step();
            if (!isNumber(0, TIDE_MOST)) {
                return false;
            }
            coast.list[place] = value;
            step();
            return true;
        }

        private boolean tellStorm(Coast coast) {
            if (!isNumber(0, STORM_MOST)) {
                return false;
            }
            coast.storm = value;
            step();
            return true;
        }

        private boolean tellParcel(Coast coast, int kind) {
            Parcel p = coast.lay(kind);
            if (p == null) {
                return false;
            }
            step();
            if (!tellPart(p, "on", OF_LINE, LINE_MOST) || !tellPart(p, "weighs", OF_WEIGHT, WEIGHT_MOST)
                    || !tellPart(p, "waits", OF_WAITS, NUMBER_MOST)) {
                return false;
            }
            if (passes("held")) {
                p.held = 1;
            }
            return true;
        }

        /** Perhaps a word and its number: false only if the word comes without such a number. */
        private boolean tellPart(Parcel p, String word, int what, int most) {
            if (!passes(word)) {
                return true;
            }
            if (!isNumber(Parcel.least(what), most)) {
                return false;
            }
            p.put(what, value);
            step();
            return true;
        }

        private static String wordOf(int kind) {
            switch (kind) {
                case LETTER: return "letter";
                case CRATE: return "crate";
                case CLOCK: return "clock";
                case BRIDE: return "bride";
                case SOCKS: return "socks";
                case REGISTERED: return "registered";
                default: return "parcel";
            }
        }

        private boolean passes(String word) {
            if (!isWord(word)) {
                return false;
            }
            step();
            return true;
        }

        private boolean isWord(String word) {
            if (sort != WORD || end - start != word.length()) {
                return false;
            }
            for (int i = 0; i < word.length(); i++) {
                if (bytes[start + i] != word.charAt(i)) {
                    return false;
                }
            }
            return true;
        }

        private boolean isNumber(int least, int most) {
            return sort == NUMBER && value >= least && value <= most;
        }

        /** The next token, as long as it can be. */
        private void step() {
            start = end;
            while (start < length && bytes[start] == ' ') {
                start++;
            }
            end = start;
            sort = sortAt(start);
            if (sort == WORD || sort == NUMBER) {
                value = 0;
                while (end < length && sortAt(end) == sort) {
                    // Once above what a number may be it stays there: more digits change nothing.
                    if (sort == NUMBER && value <= NUMBER_MOST) {
                        value = value * 10 + (bytes[end] - '0');
                    }
                    end++;
                }
            } else if (sort != END) {
                end++;
            }
        }

        private int sortAt(int place) {
            if (place >= length || place >= bytes.length) {
                return END;
            }
            byte b = bytes[place];
            if (b >= 'a' && b <= 'z') {
                return WORD;
            }
            if (b >= '0' && b <= '9') {
                return NUMBER;
            }
            return b == ';' ? SIGN : OTHER;
        }
    }
}
