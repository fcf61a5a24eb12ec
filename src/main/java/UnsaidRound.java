/** A roundabout that is turned by what the mothers on the bench keep back. */
public final class UnsaidRound {
    private static final int BEYOND = -1000000001;
    private static final int FULL = -1000000002;
    private static final int KIND = -1000000003;
    private static final int NONE = -1000000004;
    private static final int STATE = -1000000005;
    private static final int MISSING = -1000000006;
    private static final int SIZE = -1000000007;
    private static final int FINDINGS = 7;

    private static final int MOST_MOTHERS = 8;
    private static final int MOST_CHILDREN = 6;
    private static final int MOST_SECRET = 99;
    private static final int MOST_SILENT = 999;
    private static final int MOST_GRIP = 200;
    private static final int MOST_SPEED = 200;
    private static final int MOST_HEAVY = 50;
    private static final int MOST_TURNED = 999999;
    private static final int MOST_FLUNG = 9999;
    private static final int MOST_PUSH_ASKED = 9999;
    private static final int LAST_MINUTE = 99999;
    private static final int DAY = 50;
    private static final int NIGHTFALL = 40;
    private static final int PART = 10;
    private static final int PARTS = 5;
    private static final int ALL_PARTS = 31;
    private static final int FIRST_SECRET = 10;
    private static final int FIRST_HEAVY = 10;
    private static final int FAST = 30;

    private static final int FAR_AHEAD = 200;
    private static final int NEAR_AHEAD = 60;
    private static final int MOST_AT_ONCE = 100;

    private final Green live = new Green();
    /** The one green that every look ahead is tried on, so that no call makes anything. */
    private final Green trial = new Green();
    private final Green kept = new Green();
    private boolean isKept;
    private final Tape tape = new Tape();
    private final Sheets sheets = new Sheets();
    private final int[] findings = new int[FINDINGS];

    public UnsaidRound() {
    }

    // ---- the green

    public int iron(int what, int v) {
        if (what == 0 && v >= 1 && v <= MOST_HEAVY) {
            int was = live.heaviness;
            live.heaviness = v;
            return was;
        }
        if (what == 1 && v >= 0 && v <= MOST_SPEED) {
            int was = live.speed;
            live.speed = v;
            return was;
        }
        return tell(BEYOND);
    }

    public int rain(int set) {
        if (set < 0 || set > ALL_PARTS) {
            return tell(BEYOND);
        }
        int was = live.wetParts;
        live.wetParts = set;
        return was;
    }

    public int now(int what) {
        switch (what) {
            case 0: return live.minute;
            case 1: return live.minuteOfDay();
            case 2: return live.isNight() ? 1 : 0;
            case 3: return live.isWet() ? 1 : 0;
            case 4: return live.speed;
            case 5: return live.turned;
            case 6: return live.weightNow();
            case 7: return live.pushNow();
            case 8: return live.outSet();
            case 9: return live.onSet();
            default: return tell(BEYOND);
        }
    }

    // ---- mothers

    public int mother(int kind) {
        if (!Kinds.isKind(kind)) {
            return tell(BEYOND);
        }
        if (live.motherCount >= MOST_MOTHERS) {
            return tell(FULL);
        }
        return live.addMother(kind, FIRST_SECRET, 0);
    }

    public int of(int mother, int what) {
        if (!live.hasMother(mother)) {
            return tell(BEYOND);
        }
        switch (what) {
            case 0: return live.kinds[mother];
            case 1: return live.outs[mother];
            case 2: return live.secrets[mother];
            case 3: return live.silents[mother];
            case 4: return live.keepsNow(mother, live.outCount(), live.isNight());
            case 5: return live.speaksNow(mother, live.outCount(), live.isNight()) ? 1 : 0;
            case 6: return Kinds.tells(live.kinds[mother]);
            default: return tell(BEYOND);
        }
    }

    public int set(int mother, int what, int v) {
        if (!live.hasMother(mother)) {
            return tell(BEYOND);
        }
        if (what == 2 && v >= 0 && v <= MOST_SECRET) {
            int was = live.secrets[mother];
            live.secrets[mother] = v;
            return was;
        }
        if (what == 3 && v >= 0 && v <= MOST_SILENT) {
            int was = live.silents[mother];
            live.silents[mother] = v;
            return was;
        }
        return tell(BEYOND);
    }

    public int out(int mother, int v) {
        if (!live.hasMother(mother) || v < 0 || v > 1) {
            return tell(BEYOND);
        }
        int was = live.outs[mother];
        live.moveMother(mother, v);
        return was;
    }

    public int turn(int mother, int kind) {
        if (!live.hasMother(mother) || !Kinds.isKind(kind)) {
            return tell(BEYOND);
        }
        int was = live.kinds[mother];
        live.kinds[mother] = kind;
        return was;
    }

    public int as(int mother, int kind) {
        if (!live.hasMother(mother) || !Kinds.isKind(kind)) {
            return tell(BEYOND);
        }
        if (!Kinds.isUnder(live.kinds[mother], kind)) {
            return tell(KIND);
        }
        return live.secrets[mother];
    }

    // ---- children

    public int child(int grip) {
        if (grip < 0 || grip > MOST_GRIP) {
            return tell(BEYOND);
        }
        if (live.childCount >= MOST_CHILDREN) {
            return tell(FULL);
        }
        return live.addChild(grip, 0);
    }

    public int childOf(int child, int what) {
        if (!live.hasChild(child)) {
            return tell(BEYOND);
        }
        switch (what) {
            case 0: return live.grips[child];
            case 1: return live.rides[child];
            case 2: return live.flings[child];
            default: return tell(BEYOND);
        }
    }

    public int grip(int child, int v) {
        if (!live.hasChild(child) || v < 0 || v > MOST_GRIP) {
            return tell(BEYOND);
        }
        int was = live.grips[child];
        live.grips[child] = v;
        return was;
    }

    public int ride(int child, int v) {
        if (!live.hasChild(child) || v < 0 || v > 1) {
            return tell(BEYOND);
        }
        live.rides[child] = v;
        return live.onCount();
    }

    // ---- minutes

    public int minutes(int n) {
        if (n < 1 || n > MOST_AT_ONCE) {
            return tell(BEYOND);
        }
        if (live.minute + n > LAST_MINUTE) {
            return tell(STATE);
        }
        live.passMinutes(n);
        return live.speed;
    }

    public int on(int n, int what) {
        if (n < 0 || n > FAR_AHEAD || what < 0 || what > 2) {
            return tell(BEYOND);
        }
        trial.become(live);
        trial.passMinutes(n);
        switch (what) {
            case 0: return trial.speed;
            case 1: return trial.turned;
            default: return trial.onSet();
        }
    }

    public int then(int mother, int n, int what) {
        if (!live.hasMother(mother) || n < 0 || n > FAR_AHEAD || what < 0 || what > 1) {
            return tell(BEYOND);
        }
        trial.become(live);
        trial.passMinutes(n);
        return what == 0 ? trial.secrets[mother] : trial.silents[mother];
    }

    public int quick(int v) {
        if (v < 0 || v > MOST_SPEED) {
            return tell(BEYOND);
        }
        trial.become(live);
        for (int n = 0; n <= FAR_AHEAD; n++) {
            if (trial.speed >= v) {
                return n;
            }
            trial.passMinute();
        }
        return tell(NONE);
    }

    public int stands() {
        trial.become(live);
        for (int n = 0; n <= FAR_AHEAD; n++) {
            if (trial.speed == 0) {
                return n;
            }
            trial.passMinute();
        }
        return tell(NONE);
    }

    public int flung(int child) {
        if (!live.hasChild(child)) {
            return tell(BEYOND);
        }
        trial.become(live);
        // Only one that is on can be flung, and nobody gets on ahead: getting off is being flung.
        for (int n = 1; n <= FAR_AHEAD && trial.rides[child] == 1; n++) {
            trial.passMinute();
            if (trial.rides[child] == 0) {
                return n;
            }
        }
        return tell(NONE);
    }

    // ---- what is best

    public int send(int n) {
        if (!isNear(n)) {
            return tell(BEYOND);
        }
        int best = -1;
        int least = 0;
        for (int m = 0; m < live.motherCount; m++) {
            if (live.outs[m] == 1) {
                trial.become(live);
                trial.moveMother(m, 0);
                trial.passMinutes(n);
                if (best < 0 || trial.turned < least) {
                    best = m;
                    least = trial.turned;
                }
            }
        }
        return best < 0 ? tell(NONE) : best;
    }

    public int kind(int mother, int n) {
        if (!live.hasMother(mother) || !isNear(n)) {
            return tell(BEYOND);
        }
        int best = 0;
        int most = -1;
        for (int k = 0; k < Kinds.HOW_MANY; k++) {
            trial.become(live);
            trial.kinds[mother] = k;
            trial.passMinutes(n);
            if (trial.turned > most) {
                best = k;
                most = trial.turned;
            }
        }
        return best;
    }

    public int firm(int child, int n) {
        if (!live.hasChild(child) || !isNear(n)) {
            return tell(BEYOND);
        }
        if (!holdsWith(child, MOST_GRIP, n)) {
            return tell(NONE);
        }
        // Until a child is flung, its grip changes nothing but itself: who holds with
        // one grip holds with every greater one, so the least can be halved towards.
        int low = 0;
        int high = MOST_GRIP;
        for (int step = 0; step < 8 && low < high; step++) {
            int middle = (low + high) / 2;
            if (holdsWith(child, middle, n)) {
                high = middle;
            } else {
                low = middle + 1;
            }
        }
        return high;
    }

    public int heavy(int n) {
        if (!isNear(n)) {
            return tell(BEYOND);
        }
        int before = live.flingsOfAll();
        // One by one: a bride who speaks above a speed can make a heavier iron fling more.
        for (int h = 1; h <= MOST_HEAVY; h++) {
            trial.become(live);
            trial.heaviness = h;
            trial.passMinutes(n);
            if (trial.flingsOfAll() <= before) {
                return h;
            }
        }
        return tell(NONE);
    }

    public int fewest(int v) {
        if (v < 0 || v > MOST_PUSH_ASKED) {
            return tell(BEYOND);
        }
        int sets = 1 << live.motherCount;
        int outAlready = live.outSet();
        int best = -1;
        int least = MOST_MOTHERS + 1;
        for (int set = 0; set < sets; set++) {
            int size = Integer.bitCount(set);
            if (size < least && (set & outAlready) == 0 && pushWith(set) >= v) {
                best = set;
                least = size;
            }
        }
        return best < 0 ? tell(NONE) : best;
    }

    public int weather(int n) {
        if (!isNear(n)) {
            return tell(BEYOND);
        }
        trial.become(live);
        trial.passMinutes(n);
        int otherwise = trial.turned;
        int best = 0;
        int most = -1;
        for (int part = 0; part < PARTS; part++) {
            trial.become(live);
            trial.wetParts = live.wetParts ^ (1 << part);
            trial.passMinutes(n);
            int change = Math.abs(trial.turned - otherwise);
            if (change > most) {
                best = part;
                most = change;
            }
        }
        return best;
    }

    public int deepest(int n) {
        if (n < 0 || n > FAR_AHEAD) {
            return tell(BEYOND);
        }
        trial.become(live);
        trial.passMinutes(n);
        int outs = trial.outCount();
        boolean night = trial.isNight();
        int best = -1;
        int most = -1;
        for (int m = 0; m < trial.motherCount; m++) {
            if (trial.outs[m] == 1) {
                int keeps = trial.keepsNow(m, outs, night);
                if (keeps > most) {
                    best = m;
                    most = keeps;
                }
            }
        }
        return best < 0 ? tell(NONE) : best;
    }

    // ---- the text

    public int feed(int bytes, int n) {
        if (n < 1 || n > 4) {
            return tell(BEYOND);
        }
        if (tape.length + n > Tape.MOST_BYTES) {
            return tell(FULL);
        }
        for (int i = n - 1; i >= 0; i--) {
            tape.bytes[tape.length] = (bytes >> (8 * i)) & 255;
            tape.length++;
        }
        return tape.length;
    }

    public int wipe() {
        int had = tape.length;
        tape.length = 0;
        return had;
    }

    public int green() {
        trial.become(live);
        int answer = tape.addItems(trial);
        tape.length = 0;
        if (answer >= 0) {
            live.become(trial);
        }
        return answer;
    }

    // ---- sheets

    public int sheet(int s, int bits, int n) {
        if (!sheets.isSheet(s) || (bits != 0 && bits != 8 && bits != 16 && bits != 64)) {
            return tell(BEYOND);
        }
        if (n < 0) {
            return tell(SIZE);
        }
        if (n > Sheets.MOST_NUMBERS) {
            return tell(BEYOND);
        }
        return sheets.lay(s, bits, bits == 0 ? 0 : n);
    }

    public long write(int s, int i, long v) {
        if (!sheets.isSheet(s)) {
            return tell(BEYOND);
        }
        if (sheets.isMissing(s)) {
            return tell(MISSING);
        }
        if (i < 0 || i >= sheets.lengths[s]) {
            return tell(BEYOND);
        }
        long was = sheets.numberAt(s, i);
        sheets.put(s, i, v);
        return was;
    }

    public int copy(int s, int from, int t, int to, int n) {
        if (!sheets.isSheet(s) || !sheets.isSheet(t)) {
            return tell(BEYOND);
        }
        if (sheets.isMissing(s) || sheets.isMissing(t)) {
            return tell(MISSING);
        }
        if (sheets.widths[s] != sheets.widths[t]) {
            return tell(KIND);
        }
        if (!sheets.hasRange(s, from, n) || !sheets.hasRange(t, to, n)) {
            return tell(BEYOND);
        }
        sheets.move(s, from, t, to, n);
        return n;
    }

    public int lays(int s) {
        if (!sheets.isSheet(s)) {
            return tell(BEYOND);
        }
        if (sheets.isMissing(s)) {
            return tell(MISSING);
        }
        int came = 0;
        for (int i = 0; i < sheets.lengths[s] && i < live.motherCount; i++) {
            long number = sheets.numberAt(s, i);
            if (number >= 0 && number <= MOST_SECRET) {
                live.secrets[i] = (int) number;
                came++;
            }
        }
        return came;
    }

    public int book(int s) {
        if (!sheets.isSheet(s)) {
            return tell(BEYOND);
        }
        if (sheets.isMissing(s)) {
            return tell(MISSING);
        }
        trial.become(live);
        for (int i = 0; i < sheets.lengths[s]; i++) {
            sheets.put(s, i, trial.speed);
            trial.passMinute();
        }
        return sheets.lengths[s];
    }

    public int read(int s, int mother) {
        if (!sheets.isSheet(s)) {
            return tell(BEYOND);
        }
        if (sheets.isMissing(s)) {
            return tell(MISSING);
        }
        if (!live.hasMother(mother)) {
            return tell(BEYOND);
        }
        int pairs = Kinds.HOW_MANY * (MOST_SECRET + 1);
        // One that is in turns nothing, whatever she is: all pairs go as the first does.
        if (live.outs[mother] == 0) {
            return turnsAsTold(s, mother, 0, 0) ? pairs : 0;
        }
        int fitting = 0;
        for (int pair = 0; pair < pairs; pair++) {
            if (turnsAsTold(s, mother, pair / (MOST_SECRET + 1), pair % (MOST_SECRET + 1))) {
                fitting++;
            }
        }
        return fitting;
    }

    // ---- images

    public int image() {
        kept.become(live);
        isKept = true;
        return 1;
    }

    public int undo() {
        if (!isKept) {
            return tell(NONE);
        }
        live.become(kept);
        return live.motherCount;
    }

    public int tear() {
        int was = isKept ? 1 : 0;
        isKept = false;
        return was;
    }

    public int count(int what) {
        switch (what) {
            case 0: return live.motherCount;
            case 1: return live.childCount;
            case 2: return tape.length;
            case 3: return live.flingsOfAll();
            default: return tell(BEYOND);
        }
    }

    public int status(int which) {
        if (which < -1 || which >= FINDINGS) {
            return tell(BEYOND);
        }
        if (which >= 0) {
            return findings[which];
        }
        int all = 0;
        for (int i = 0; i < FINDINGS; i++) {
            all += findings[i];
        }
        return all;
    }

    // ---- what the calls share

    /** Every finding is answered through here, so that status() knows of it. */
    private int tell(int finding) {
        int which = BEYOND - finding;
        if (which >= 0 && which < FINDINGS) {
            findings[which]++;
        }
        return finding;
    }

    private static boolean isNear(int n) {
        return n >= 1 && n <= NEAR_AHEAD;
    }

    private boolean holdsWith(int child, int grip, int n) {
        trial.become(live);
        trial.grips[child] = grip;
        trial.passMinutes(n);
        return trial.flings[child] <= live.flings[child];
    }

    private int pushWith(int comers) {
        trial.become(live);
        for (int m = 0; m < trial.motherCount; m++) {
            if ((comers >> m & 1) == 1) {
                trial.moveMother(m, 1);
            }
        }
        return trial.pushNow();
    }

    private boolean turnsAsTold(int s, int mother, int kind, int secret) {
        trial.become(live);
        trial.kinds[mother] = kind;
        trial.secrets[mother] = secret;
        for (int i = 0; i < sheets.lengths[s]; i++) {
            if (i > 0) {
                trial.passMinute();
            }
            if (sheets.numberAt(s, i) != trial.speed) {
                return false;
            }
        }
        return true;
    }

    /** What the kinds of mothers have of their own; nothing of it is kept anywhere. */
    private static final class Kinds {
        static final int HOW_MANY = 6;
        static final int MOTHER = 0;
        static final int AUNT = 1;
        static final int GOSSIP = 2;
        static final int MRS = 3;
        static final int GRAN = 4;
        static final int BRIDE = 5;

        static boolean isKind(int kind) {
            return kind >= 0 && kind < HOW_MANY;
        }

        static boolean isUnder(int kind, int other) {
            return kind == other || other == MOTHER || kindAbove(kind) == other;
        }

        private static int kindAbove(int kind) {
            switch (kind) {
                case GRAN: return AUNT;
                case BRIDE: return GOSSIP;
                default: return MOTHER;
            }
        }

        static int keeps(int kind, int secret, int silent, int others, boolean night) {
            int asMother = secret / 5 + silent;
            int asAunt = secret / 2 + silent;
            int asGossip = others == 0 ? 0 : asMother;
            switch (kind) {
                case AUNT: return asAunt;
                case GOSSIP: return asGossip;
                case MRS: return 2 * secret;
                case GRAN: return night ? asAunt + 10 : asAunt;
                case BRIDE: return asGossip + 3 * others;
                default: return asMother;
            }
        }

        static boolean speaks(int kind, int silent, int others, boolean night, int speed) {
            boolean asAunt = silent >= 15;
            boolean asGossip = silent >= 3 && others > 0;
            switch (kind) {
                case AUNT: return asAunt;
                case GOSSIP: return asGossip;
                case MRS: return false;
                case GRAN: return asAunt && !night;
                case BRIDE: return asGossip || speed > 100;
                default: return silent >= 9;
            }
        }

        static int tells(int kind) {
            int asMother = 3;
            int asAunt = asMother - 1;
            int asGossip = 2 * asMother;
            switch (kind) {
                case AUNT: return asAunt;
                case GOSSIP: return asGossip;
                case MRS: return 0;
                case GRAN: return asAunt;
                case BRIDE: return asGossip + 1;
                default: return asMother;
            }
        }
    }

    /** All that an image keeps. Rows are made once and stand for the most there can be. */
    private static final class Green {
        int minute;
        int wetParts;
        int heaviness = FIRST_HEAVY;
        int speed;
        int turned;
        int motherCount;
        final int[] kinds = new int[MOST_MOTHERS];
        final int[] outs = new int[MOST_MOTHERS];
        final int[] secrets = new int[MOST_MOTHERS];
        final int[] silents = new int[MOST_MOTHERS];
        int childCount;
        final int[] grips = new int[MOST_CHILDREN];
        final int[] rides = new int[MOST_CHILDREN];
        final int[] flings = new int[MOST_CHILDREN];

        void become(Green other) {
            minute = other.minute;
            wetParts = other.wetParts;
            heaviness = other.heaviness;
            speed = other.speed;
            turned = other.turned;
            motherCount = other.motherCount;
            System.arraycopy(other.kinds, 0, kinds, 0, MOST_MOTHERS);
            System.arraycopy(other.outs, 0, outs, 0, MOST_MOTHERS);
            System.arraycopy(other.secrets, 0, secrets, 0, MOST_MOTHERS);
            System.arraycopy(other.silents, 0, silents, 0, MOST_MOTHERS);
            childCount = other.childCount;
            System.arraycopy(other.grips, 0, grips, 0, MOST_CHILDREN);
            System.arraycopy(other.rides, 0, rides, 0, MOST_CHILDREN);
            System.arraycopy(other.flings, 0, flings, 0, MOST_CHILDREN);
        }

        boolean hasMother(int m) {
            return m >= 0 && m < motherCount;
        }

        boolean hasChild(int c) {
            return c >= 0 && c < childCount;
        }

        /** Answers her number; the caller has seen that there is room. */
        int addMother(int kind, int secret, int isOut) {
            int m = motherCount;
            if (m < 0 || m >= MOST_MOTHERS) {
                return -1;
            }
            kinds[m] = kind;
            outs[m] = isOut;
            secrets[m] = secret;
            silents[m] = 0;
            motherCount = m + 1;
            return m;
        }

        /** Answers its number; the caller has seen that there is room. */
        int addChild(int grip, int isOn) {
            int c = childCount;
            if (c < 0 || c >= MOST_CHILDREN) {
                return -1;
            }
            grips[c] = grip;
            rides[c] = isOn;
            flings[c] = 0;
            childCount = c + 1;
            return c;
        }

        /** Whoever comes or goes begins her silence anew. */
        void moveMother(int m, int isOut) {
            outs[m] = isOut;
            silents[m] = 0;
        }

        int minuteOfDay() {
            return minute % DAY;
        }

        boolean isNight() {
            return minuteOfDay() >= NIGHTFALL;
        }

        boolean isWet() {
            return (wetParts >> (minuteOfDay() / PART) & 1) == 1;
        }

        int outCount() {
            int many = 0;
            for (int m = 0; m < motherCount; m++) {
                many += outs[m];
            }
            return many;
        }

        int outSet() {
            int set = 0;
            for (int m = 0; m < motherCount; m++) {
                set |= outs[m] << m;
            }
            return set;
        }

        int onCount() {
            int many = 0;
            for (int c = 0; c < childCount; c++) {
                many += rides[c];
            }
            return many;
        }

        int onSet() {
            int set = 0;
            for (int c = 0; c < childCount; c++) {
                set |= rides[c] << c;
            }
            return set;
        }

        int flingsOfAll() {
            int all = 0;
            for (int c = 0; c < childCount; c++) {
                all += flings[c];
            }
            return all;
        }

        int weightNow() {
            return heaviness + 2 * onCount();
        }

        int keepsNow(int m, int outsInAll, boolean night) {
            return Kinds.keeps(kinds[m], secrets[m], silents[m], outsInAll - outs[m], night);
        }

        boolean speaksNow(int m, int outsInAll, boolean night) {
            return Kinds.speaks(kinds[m], silents[m], outsInAll - outs[m], night, speed);
        }

        int pushNow() {
            if (isWet()) {
                return 0;
            }
            int outsInAll = outCount();
            boolean night = isNight();
            int push = 0;
            for (int m = 0; m < motherCount; m++) {
                if (outs[m] == 1) {
                    push += keepsNow(m, outsInAll, night);
                }
            }
            return push;
        }

        void passMinutes(int n) {
            for (int i = 0; i < n; i++) {
                passMinute();
            }
        }

        void passMinute() {
            int push = pushNow();
            int weight = weightNow();
            int gain = weight > 0 ? push / weight : 0;
            int loss = Math.max(1, speed / 10);
            speed = Math.max(0, Math.min(MOST_SPEED, speed + gain - loss));
            turned = Math.min(MOST_TURNED, turned + speed);
            tryGrips();
            letSpeak();
            minute++;
        }

        private void tryGrips() {
            for (int c = 0; c < childCount; c++) {
                if (rides[c] == 1) {
                    if (grips[c] < speed) {
                        rides[c] = 0;
                        flings[c] = Math.min(MOST_FLUNG, flings[c] + 1);
                    } else if (speed > FAST) {
                        grips[c] = Math.max(0, grips[c] - 1);
                    }
                }
            }
        }

        private void letSpeak() {
            int outsInAll = outCount();
            boolean night = isNight();
            for (int m = 0; m < motherCount; m++) {
                if (outs[m] == 1) {
                    if (speaksNow(m, outsInAll, night)) {
                        secrets[m] = Math.max(0, secrets[m] - Kinds.tells(kinds[m]));
                        silents[m] = 0;
                    } else {
                        silents[m] = Math.min(MOST_SILENT, silents[m] + 1);
                    }
                }
            }
        }
    }

    /** THE TAPE, and the reading of it token by token; the token at hand is the one at start. */
    private static final class Tape {
        static final int MOST_BYTES = 120;
        private static final int ENDS = 0;
        private static final int WORD = 1;
        private static final int NUMBER = 2;
        private static final int SIGN = 3;
        private static final int OTHER = 4;
        /** Above every number that may be, so that no row of digits runs over. */
        private static final int TOO_MUCH = 1000;

        final int[] bytes = new int[MOST_BYTES];
        int length;
        private int sort;
        private int start;
        private int behind;
        private int number;

        /** Answers how many items came to the green, or -1 less the place of the fault. */
        int addItems(Green green) {
            behind = 0;
            advance();
            for (int items = 1; items <= MOST_BYTES; items++) {
                if (!takeItem(green)) {
                    return -1 - start;
                }
                if (sort == ENDS) {
                    return items;
                }
                if (sort != SIGN) {
                    return -1 - start;
                }
                advance();
            }
            return -1 - start;
        }

        /** False if the token at hand can't stand there; so are the others that take. */
        private boolean takeItem(Green green) {
            int kind = kindNamed();
            if (kind >= 0) {
                return takeMother(green, kind);
            }
            if (isWord("child")) {
                return takeChild(green);
            }
            if (isWord("rain")) {
                return takeWet(green);
            }
            if (isWord("dry")) {
                return takeDry(green);
            }
            return isWord("heavy") && takeHeavy(green);
        }

        private int kindNamed() {
            if (isWord("mother")) {
                return Kinds.MOTHER;
            }
            if (isWord("aunt")) {
                return Kinds.AUNT;
            }
            if (isWord("gossip")) {
                return Kinds.GOSSIP;
            }
            if (isWord("mrs")) {
                return Kinds.MRS;
            }
            if (isWord("gran")) {
                return Kinds.GRAN;
            }
            return isWord("bride") ? Kinds.BRIDE : -1;
        }

        private boolean takeMother(Green green, int kind) {
            if (green.motherCount >= MOST_MOTHERS) {
                return false;
            }
            advance();
            int secret = FIRST_SECRET;
            if (isWord("secret")) {
                if (!takeNumber(0, MOST_SECRET)) {
                    return false;
                }
                secret = number;
                advance();
            }
            int isOut = 0;
            if (isWord("out")) {
                isOut = 1;
                advance();
            }
            green.addMother(kind, secret, isOut);
            return true;
        }

        private boolean takeChild(Green green) {
            if (green.childCount >= MOST_CHILDREN || !takeNumber(0, MOST_GRIP)) {
                return false;
            }
            int grip = number;
            advance();
            int isOn = 0;
            if (isWord("on")) {
                isOn = 1;
                advance();
            }
            green.addChild(grip, isOn);
            return true;
        }

        private boolean takeWet(Green green) {
            if (!takeNumber(0, PARTS - 1)) {
                return false;
            }
            green.wetParts |= 1 << number;
            advance();
            return true;
        }

        private boolean takeDry(Green green) {
            if (!takeNumber(0, PARTS - 1)) {
                return false;
            }
            green.wetParts &= ~(1 << number);
            advance();
            return true;
        }

        private boolean takeHeavy(Green green) {
            if (!takeNumber(1, MOST_HEAVY)) {
                return false;
            }
            green.heaviness = number;
            advance();
            return true;
        }

        /** Goes on to the next token, which must be a number that may be, and stays there. */
        private boolean takeNumber(int least, int most) {
            advance();
            return sort == NUMBER && number >= least && number <= most;
        }

        private boolean isWord(String word) {
            if (sort != WORD || behind - start != word.length()) {
                return false;
            }
            for (int i = 0; i < word.length(); i++) {
                if (byteAt(start + i) != word.charAt(i)) {
                    return false;
                }
            }
            return true;
        }

        private void advance() {
            int p = behind;
            while (p < length && byteAt(p) == ' ') {
                p++;
            }
            start = p;
            sort = p < length ? sortOf(byteAt(p)) : ENDS;
            number = 0;
            boolean asLongAsCanBe = sort == WORD || sort == NUMBER;
            while (p < length && sortOf(byteAt(p)) == sort && (asLongAsCanBe || p == start)) {
                if (sort == NUMBER) {
                    number = Math.min(TOO_MUCH, 10 * number + byteAt(p) - '0');
                }
                p++;
            }
            behind = p;
        }

        private static int sortOf(int b) {
            if (b >= 'a' && b <= 'z') {
                return WORD;
            }
            if (b >= '0' && b <= '9') {
                return NUMBER;
            }
            return b == ';' ? SIGN : OTHER;
        }

        private int byteAt(int p) {
            return p >= 0 && p < MOST_BYTES ? bytes[p] : 0;
        }
    }

    /** All sheets in one row of numbers; a sheet of width 0 is MISSING. */
    private static final class Sheets {
        static final int MOST_NUMBERS = 40;
        private static final int HOW_MANY = 4;

        final int[] widths = new int[HOW_MANY];
        final int[] lengths = new int[HOW_MANY];
        private final long[] numbers = new long[HOW_MANY * MOST_NUMBERS];

        boolean isSheet(int s) {
            return s >= 0 && s < HOW_MANY;
        }

        boolean isMissing(int s) {
            return widths[s] == 0;
        }

        /** Written so that no sum can run over, whatever is asked. */
        boolean hasRange(int s, int from, int n) {
            return from >= 0 && n >= 0 && n <= lengths[s] && from <= lengths[s] - n;
        }

        int lay(int s, int bits, int n) {
            widths[s] = bits;
            lengths[s] = n;
            for (int i = 0; i < MOST_NUMBERS; i++) {
                numbers[s * MOST_NUMBERS + i] = 0;
            }
            return n;
        }

        long numberAt(int s, int i) {
            return numbers[s * MOST_NUMBERS + i];
        }

        /** Numbers have a sign, so the lowest bits of 200 are -56 in a sheet of 8. */
        void put(int s, int i, long v) {
            long fits = v;
            if (widths[s] == 8) {
                fits = (byte) v;
            } else if (widths[s] == 16) {
                fits = (short) v;
            }
            numbers[s * MOST_NUMBERS + i] = fits;
        }

        void move(int s, int from, int t, int to, int n) {
            System.arraycopy(numbers, s * MOST_NUMBERS + from, numbers, t * MOST_NUMBERS + to, n);
        }
    }
}
