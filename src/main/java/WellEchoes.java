/**
 * Night school of echoes in wells: a dry land's laws are songs that go round in wells till they are
 * faint. ../shared/DOC.md says what each call answers; words in capitals are the document's.
 */
public final class WellEchoes {
    public static final int UNKNOWN = -1, BAD = -2, LATE = -3, FULL = -4, NONE = -9;

    private static final int LAWS = 6;
    private static final int PITCHES = 4;
    private static final int MOST_WELLS = 4;
    private static final int MOST_SONGS = 8;
    private static final int MOST_SONGS_TOLD = 6;
    private static final int MOST_BYTES = 56;
    private static final int MOST_ACTS = 12;
    private static final int MOST_SLIPS = 9;
    private static final int LOUDEST = 9;
    private static final int DEEPEST = 9;
    private static final int CRACKED = 2;
    private static final int LOWEST_NOON_UNHEARD = 2;
    private static final int FOREVER = 99;
    private static final int FLOOD = 3;
    private static final int PLAN_VOICE = 6;
    /** Less than anything that can be done is worth. */
    private static final int WORST = -100;
    private static final int YEARS_BEHIND_PLAN = 3;
    private static final int YEARS_BEHIND_LORDS = 4;
    private static final long SEED_TIMES = 6364136223846793005L;
    private static final long SEED_AND = 1442695040888963407L;

    /** The parts of a SONG, by the numbers that song(song, what) asks for. */
    private static final int LAW = 0;
    private static final int WELL = 1;
    private static final int LOUD = 2;
    private static final int PITCH = 3;
    private static final int AGE = 4;
    private static final int SLIPS = 5;
    private static final int SONG_PARTS = 6;

    private final Text text;
    private final Wells wells;
    private final Songs now;
    private final Acts acts;
    private final Songs firstSlot;
    private final Songs secondSlot;
    private int slotsKept;
    private int lawsOfLand;
    private long seedNow;

    /** Rows for what might be: made once, since a run of calls may make few objects. */
    private final Songs trial;
    private final Songs laterTrial;
    private final int[] lidWorth;
    private final int[] lidWorthAhead;

    public WellEchoes() {
        text = new Text();
        wells = new Wells();
        now = new Songs();
        acts = new Acts();
        firstSlot = new Songs();
        secondSlot = new Songs();
        trial = new Songs();
        laterTrial = new Songs();
        lidWorth = new int[1 << MOST_WELLS];
        lidWorthAhead = new int[1 << MOST_WELLS];
    }

    // ---- the land

    public int write(int letter) {
        if (letter < 0 || letter > 255) {
            return BAD;
        }
        return text.append(letter) ? text.length : FULL;
    }

    public int wipe() {
        int length = text.length;
        text.length = 0;
        return length;
    }

    public int fault() {
        return text.faultPlace();
    }

    public int land() {
        if (text.faultPlace() != NONE) {
            return LATE;
        }
        wells.count = 0;
        now.clear();
        acts.count = 0;
        slotsKept = 0;
        for (int place = 1; place < text.length; place++) {
            tellPart(place);
        }
        lawsOfLand = now.lawsHad();
        return 10 * wells.count + now.count;
    }

    /** In a text without a FAULT, W and S stand where PARTS begin and nowhere else. */
    private void tellPart(int place) {
        int letter = text.letterAt(place);
        if (letter == 'W') {
            wells.add(text.digitAt(place + 1), text.digitAt(place + 2));
        } else if (letter == 'S') {
            now.add(text.digitAt(place + 1), text.digitAt(place + 2), text.digitAt(place + 3),
                    text.digitAt(place + 4), 0);
        }
    }

    public int about(int what) {
        switch (what) {
            case 0: return wells.count;
            case 1: return now.count;
            case 2: return now.years;
            case 3: return now.breath;
            case 4: return now.lids;
            case 5: return lawsOfLand;
            case 6: return now.lawsHad();
            case 7: return acts.count;
            case 8: return text.length;
            default: return BAD;
        }
    }

    public int well(int well, int what) {
        if (!wells.has(well)) {
            return UNKNOWN;
        }
        switch (what) {
            case 0: return wells.depthOf(well);
            case 1: return wells.stoneOf(well);
            case 2: return now.hasLid(well) ? 1 : 0;
            case 3: return now.songsIn(well);
            default: return BAD;
        }
    }

    public int song(int song, int what) {
        if (!now.has(song)) {
            return UNKNOWN;
        }
        return isWithin(what, 0, SONG_PARTS - 1) ? now.get(song, what) : BAD;
    }

    // ---- acts

    public int year() {
        acts.remember(now);
        return now.goYear(wells);
    }

    public int sing(int song, int side, int voice, int pitch) {
        if (!now.has(song)) {
            return UNKNOWN;
        }
        if (!isWithin(side, 0, 1) || !isWithin(voice, 1, LOUDEST) || !isWithin(pitch, 0, PITCHES - 1)) {
            return BAD;
        }
        if (!now.isWayOpen(song, side, wells)) {
            return LATE;
        }
        if (now.count >= MOST_SONGS) {
            return FULL;
        }
        acts.remember(now);
        return now.singOn(song, side, voice, pitch, wells);
    }

    public int lid(int well) {
        if (!wells.has(well)) {
            return UNKNOWN;
        }
        acts.remember(now);
        now.lids ^= 1 << well;
        return now.hasLid(well) ? 1 : 0;
    }

    public int undo() {
        return acts.takeBack(now) ? acts.count : LATE;
    }

    // ---- heard, lasting

    public int heard(int well, int x, boolean noon) {
        if (!wells.has(well)) {
            return UNKNOWN;
        }
        return isWithin(x, 0, DEEPEST) ? heardBy(well, x, noon) : BAD;
    }

    private int heardBy(int well, int x, boolean noon) {
        if (now.hasLid(well)) {
            return 0;
        }
        int depth = wells.depthOf(well);
        int lamp = Math.min(x, depth);
        int bits = 0;
        for (int song = 0; song < now.count; song++) {
            int way = Math.abs(Math.min(now.get(song, AGE), depth) - lamp);
            boolean sounds = !noon || now.get(song, PITCH) < LOWEST_NOON_UNHEARD;
            if (now.get(song, WELL) == well && sounds && now.get(song, LOUD) > way) {
                bits |= 1 << song;
            }
        }
        return bits;
    }

    public int songLasts(int song) {
        if (!now.has(song)) {
            return UNKNOWN;
        }
        trial.take(now);
        int place = song;
        for (int years = 1; years < FOREVER; years++) {
            trial.wear(wells);
            if (trial.get(place, LOUD) <= 0) {
                return years;
            }
            place -= trial.faintAhead(place);
            trial.dropFaint();
        }
        return FOREVER;
    }

    public int lawLasts(int law) {
        if (!isWithin(law, 0, LAWS - 1)) {
            return BAD;
        }
        trial.take(now);
        for (int years = 0; years < FOREVER; years++) {
            if ((trial.lawsHad() >> law & 1) == 0) {
                return years;
            }
            trial.goYear(wells);
        }
        return FOREVER;
    }

    public int lost(int n) {
        if (!isWithin(n, 0, 30)) {
            return BAD;
        }
        trial.take(now);
        trial.goYears(n, wells);
        return lawsOfLand & ~trial.lawsHad();
    }

    // ---- plans

    public int plan(int n, int what) {
        if (!isWithin(n, 1, 2) || !isWithin(what, 0, 1)) {
            return BAD;
        }
        int best = WORST;
        int bestDeed = 0;
        int deeds = deedsOf(now);
        for (int deed = 0; deed < deeds; deed++) {
            trial.take(now);
            if (isDone(trial, deed)) {
                trial.goYear(wells);
                int worth = worthOfDeed(deed) + (n == 1 ? worthBehindPlan(trial) : bestSecondWorth());
                if (worth > best) {
                    best = worth;
                    bestDeed = deed;
                }
            }
        }
        return what == 0 ? lawsOfWorth(best) : bestDeed;
    }

    /** Of what can be done ahead of the second YEAR, from the first one's end in trial. */
    private int bestSecondWorth() {
        int best = WORST;
        int deeds = deedsOf(trial);
        for (int deed = 0; deed < deeds; deed++) {
            laterTrial.take(trial);
            if (isDone(laterTrial, deed)) {
                laterTrial.goYear(wells);
                best = Math.max(best, worthOfDeed(deed) + worthBehindPlan(laterTrial));
            }
        }
        return best;
    }

    /** A deed is 0 (none), else 1, twice the SONG, and the side: so lesser deeds come first. */
    private static int deedsOf(Songs songs) {
        return 1 + 2 * songs.count;
    }

    private boolean isDone(Songs songs, int deed) {
        if (deed == 0) {
            return true;
        }
        int song = (deed - 1) / 2;
        int side = (deed - 1) % 2;
        if (!songs.has(song) || !songs.isWayOpen(song, side, wells) || songs.count >= MOST_SONGS) {
            return false;
        }
        songs.singOn(song, side, PLAN_VOICE, songs.get(song, PITCH), wells);
        return true;
    }

    /** Worth is 3 for each LAW less 1 for each SONG sung on (2 at most): so a LAW outweighs them. */
    private static int worthOfDeed(int deed) {
        return deed == 0 ? 0 : -1;
    }

    private int worthBehindPlan(Songs songs) {
        songs.goYears(YEARS_BEHIND_PLAN, wells);
        return 3 * landLawsIn(songs);
    }

    private static int lawsOfWorth(int worth) {
        return (worth + 2) / 3;
    }

    private int landLawsIn(Songs songs) {
        return Integer.bitCount(lawsOfLand & songs.lawsHad());
    }

    private int landLawsBehind(int years, int lids) {
        trial.take(now);
        trial.lids = lids;
        trial.goYears(years, wells);
        return landLawsIn(trial);
    }

    public int bestLid(int n) {
        if (!isWithin(n, 1, 9)) {
            return BAD;
        }
        int best = NONE;
        int most = landLawsBehind(n, now.lids);
        for (int well = 0; well < wells.count; well++) {
            int laws = now.hasLid(well) ? 0 : landLawsBehind(n, now.lids | 1 << well);
            if (laws > most) {
                most = laws;
                best = well;
            }
        }
        return best;
    }

    public int lamps() {
        int wanted = now.lawsHad();
        long byOne = lawsByOneLamp();
        long byAll = 1L;
        for (int count = 0; count <= LAWS; count++) {
            if ((byAll >>> wanted & 1L) == 1L) {
                return count;
            }
            byAll = joined(byAll, byOne);
        }
        return NONE;
    }

    /** Sets of LAWS that some one LAMP tells: bit s of the answer is for the set whose bits are s. */
    private long lawsByOneLamp() {
        long sets = 0L;
        for (int well = 0; well < wells.count; well++) {
            for (int x = 0; x <= DEEPEST; x++) {
                sets |= 1L << now.lawsOf(heardBy(well, x, false));
            }
        }
        return sets;
    }

    /** Every set of the one kind together with every set of the other kind. */
    private static long joined(long some, long others) {
        long sets = 0L;
        for (int set = 0; set < 1 << LAWS; set++) {
            if ((some >>> set & 1L) == 1L) {
                sets |= joinedWithEach(set, others);
            }
        }
        return sets;
    }

    private static long joinedWithEach(int set, long others) {
        long sets = 0L;
        for (int other = 0; other < 1 << LAWS; other++) {
            if ((others >>> other & 1L) == 1L) {
                sets |= 1L << (set | other);
            }
        }
        return sets;
    }

    public int mostPitch(int law) {
        if (!isWithin(law, 0, LAWS - 1)) {
            return BAD;
        }
        int best = NONE;
        int most = 0;
        for (int pitch = 0; pitch < PITCHES; pitch++) {
            int copies = now.copiesOf(law, pitch);
            if (copies > most) {
                most = copies;
                best = pitch;
            } else if (copies == most) {
                best = NONE;
            }
        }
        return best;
    }

    public int truest(int law) {
        if (!isWithin(law, 0, LAWS - 1)) {
            return BAD;
        }
        int best = NONE;
        for (int song = 0; song < now.count; song++) {
            boolean isOfLaw = now.get(song, LAW) == law;
            if (isOfLaw && (best == NONE || now.get(song, SLIPS) < now.get(best, SLIPS))) {
                best = song;
            }
        }
        return best;
    }

    public int back(int well, int v, int n) {
        if (!wells.has(well)) {
            return UNKNOWN;
        }
        if (!isWithin(v, 1, LOUDEST) || !isWithin(n, 0, 9)) {
            return BAD;
        }
        return v + n * wells.wearIn(well, now.hasLid(well));
    }

    public int lords(int n, int what) {
        if (!isWithin(n, 1, 3) || !isWithin(what, 0, 1)) {
            return BAD;
        }
        weighLids();
        for (int turn = n; turn > 1; turn--) {
            weighTurn(turn % 2 == 1);
        }
        int best = WORST;
        int bestMove = 0;
        for (int move = 0; move <= wells.count; move++) {
            int laws = worthOfLids(lidsBehind(now.lids, move));
            if (laws > best) {
                best = laws;
                bestMove = move;
            }
        }
        return what == 0 ? best : bestMove;
    }

    /** YEARS go by behind the turns alone, so what a turn is worth hangs on the LIDS alone. */
    private void weighLids() {
        for (int lids = 0; lids < lidWorth.length; lids++) {
            lidWorth[lids] = lids < 1 << wells.count ? landLawsBehind(YEARS_BEHIND_LORDS, lids) : 0;
        }
    }

    /** From what LIDS are worth behind a turn to what they are worth ahead of it. */
    private void weighTurn(boolean wantsMost) {
        for (int lids = 0; lids < lidWorthAhead.length; lids++) {
            int best = worthOfLids(lids);
            for (int move = 1; move <= wells.count; move++) {
                int laws = worthOfLids(lidsBehind(lids, move));
                best = wantsMost ? Math.max(best, laws) : Math.min(best, laws);
            }
            lidWorthAhead[lids] = best;
        }
        for (int lids = 0; lids < lidWorth.length && lids < lidWorthAhead.length; lids++) {
            lidWorth[lids] = lidWorthAhead[lids];
        }
    }

    private int worthOfLids(int lids) {
        return lids >= 0 && lids < lidWorth.length ? lidWorth[lids] : 0;
    }

    /** A move is 0 (nothing), or 1 and the WELL whose LID is put on or taken off. */
    private static int lidsBehind(int lids, int move) {
        return move == 0 ? lids : lids ^ 1 << (move - 1);
    }

    // ---- rains

    public int rain(int law, int r, boolean upper) {
        if (!isWithin(law, 0, LAWS - 1) || !isWithin(r, 0, 10)) {
            return BAD;
        }
        if (now.isSafe(law)) {
            return 1;
        }
        int all = 1;
        int flooded = 1;
        for (int well = 0; well < wells.count; well++) {
            if (now.hasLawIn(law, well)) {
                all *= 10;
                flooded *= r;
            }
        }
        int divisor = greatestDivisor(all, all - flooded);
        int part = upper ? all - flooded : all;
        return divisor > 0 ? part / divisor : part;
    }

    /** Of two that are at most 10000: Euclid's way ends within twenty steps. */
    private static int greatestDivisor(int one, int other) {
        int greater = one;
        int lesser = other;
        for (int step = 0; step < 100 && lesser != 0; step++) {
            int left = greater % lesser;
            greater = lesser;
            lesser = left;
        }
        return greater;
    }

    public long seed(long v) {
        long before = seedNow;
        seedNow = v;
        return before;
    }

    public int rains(int m, int r) {
        if (!isWithin(m, 1, 20) || !isWithin(r, 0, 10)) {
            return BAD;
        }
        trial.take(now);
        for (int time = 0; time < m; time++) {
            trial.goYear(wells);
            for (int well = 0; well < wells.count; well++) {
                if (!trial.hasLid(well) && isFloodedBySeed(r)) {
                    trial.flood(well);
                }
            }
        }
        return trial.lawsHad();
    }

    private boolean isFloodedBySeed(int r) {
        seedNow = seedNow * SEED_TIMES + SEED_AND;
        return (seedNow >>> 33) % 10L < r;
    }

    // ---- slots

    public int keep(int slot) {
        if (!isWithin(slot, 0, 1)) {
            return UNKNOWN;
        }
        slotOf(slot).take(now);
        slotsKept |= 1 << slot;
        return now.count;
    }

    public int again(int slot) {
        if (!isWithin(slot, 0, 1)) {
            return UNKNOWN;
        }
        if ((slotsKept >> slot & 1) == 0) {
            return LATE;
        }
        now.take(slotOf(slot));
        acts.count = 0;
        return now.count;
    }

    private Songs slotOf(int slot) {
        return slot == 0 ? firstSlot : secondSlot;
    }

    private static boolean isWithin(int number, int least, int most) {
        return number >= least && number <= most;
    }

    /** THE TEXT. */
    private static final class Text {
        private final int[] letters = new int[MOST_BYTES];
        private int length;

        boolean append(int letter) {
            if (length < 0 || length >= letters.length) {
                return false;
            }
            letters[length] = letter;
            length++;
            return true;
        }

        int letterAt(int place) {
            return place >= 0 && place < length && place < letters.length ? letters[place] : NONE;
        }

        int digitAt(int place) {
            return letterAt(place) - '0';
        }

        int faultPlace() {
            int wellsTold = 0;
            int songsTold = 0;
            int kind = 0;
            int digit = 0;
            for (int place = 0; place < length; place++) {
                int letter = letterAt(place);
                if (place == 0) {
                    if (letter != 'L') {
                        return place;
                    }
                } else if (kind == 0) {
                    if (!canOpen(letter, wellsTold, songsTold)) {
                        return place;
                    }
                    kind = letter;
                    digit = 0;
                } else {
                    if (!canStand(letter - '0', kind, digit, wellsTold)) {
                        return place;
                    }
                    digit++;
                    if (digit == digitsOf(kind)) {
                        wellsTold += kind == 'W' ? 1 : 0;
                        songsTold += kind == 'S' ? 1 : 0;
                        kind = 0;
                    }
                }
            }
            return length == 0 || kind != 0 ? length : NONE;
        }

        static int digitsOf(int kind) {
            return kind == 'W' ? 2 : 4;
        }

        /** No WELL can be told ahead of a SONG any more, once its S stands there. */
        static boolean canOpen(int letter, int wellsTold, int songsTold) {
            if (letter == 'W') {
                return wellsTold < MOST_WELLS;
            }
            return letter == 'S' && wellsTold > 0 && songsTold < MOST_SONGS_TOLD;
        }

        static boolean canStand(int number, int kind, int digit, int wellsTold) {
            if (kind == 'W') {
                return digit == 0 ? isWithin(number, 1, DEEPEST) : isWithin(number, 0, CRACKED);
            }
            switch (digit) {
                case 0: return isWithin(number, 0, LAWS - 1);
                case 1: return isWithin(number, 0, wellsTold - 1);
                case 2: return isWithin(number, 1, LOUDEST);
                default: return isWithin(number, 0, PITCHES - 1);
            }
        }
    }

    /** WELLS as they were told: DEPTHS and STONES. */
    private static final class Wells {
        private final int[] depths = new int[MOST_WELLS];
        private final int[] stones = new int[MOST_WELLS];
        private int count;

        void add(int depth, int stone) {
            if (count >= 0 && count < depths.length && count < stones.length) {
                depths[count] = depth;
                stones[count] = stone;
                count++;
            }
        }

        boolean has(int well) {
            return well >= 0 && well < count;
        }

        int depthOf(int well) {
            return well >= 0 && well < depths.length ? depths[well] : 0;
        }

        int stoneOf(int well) {
            return well >= 0 && well < stones.length ? stones[well] : 0;
        }

        /** How much less loud a SONG alone in it is by a YEAR. */
        int wearIn(int well, boolean hasLid) {
            return stoneOf(well) + (hasLid ? 0 : 1);
        }
    }

    /** What changes by ACTS and is kept in SLOTS: SONGS in their row, LIDS, THE YEAR, BREATH. */
    private static final class Songs {
        private final int[] cells = new int[MOST_SONGS * SONG_PARTS];
        private int count;
        private int lids;
        private int years;
        private int breath;

        void clear() {
            count = 0;
            lids = 0;
            years = 0;
            breath = 0;
        }

        void take(Songs other) {
            int used = Math.min(other.count * SONG_PARTS, Math.min(cells.length, other.cells.length));
            for (int cell = 0; cell < used; cell++) {
                cells[cell] = other.cells[cell];
            }
            count = other.count;
            lids = other.lids;
            years = other.years;
            breath = other.breath;
        }

        boolean has(int song) {
            return song >= 0 && song < count;
        }

        int get(int song, int part) {
            int cell = song * SONG_PARTS + part;
            return cell >= 0 && cell < cells.length ? cells[cell] : 0;
        }

        void set(int song, int part, int value) {
            int cell = song * SONG_PARTS + part;
            if (cell >= 0 && cell < cells.length) {
                cells[cell] = value;
            }
        }

        /** Behind the others, of AGE 0; the caller sees to it that there is room. */
        int add(int law, int well, int loud, int pitch, int slips) {
            int song = count;
            if (song >= MOST_SONGS) {
                return FULL;
            }
            set(song, LAW, law);
            set(song, WELL, well);
            set(song, LOUD, loud);
            set(song, PITCH, pitch);
            set(song, AGE, 0);
            set(song, SLIPS, slips);
            count++;
            return song;
        }

        boolean hasLid(int well) {
            return (lids >> well & 1) == 1;
        }

        int songsIn(int well) {
            int bits = 0;
            for (int song = 0; song < count; song++) {
                bits |= get(song, WELL) == well ? 1 << song : 0;
            }
            return bits;
        }

        int lawsHad() {
            return lawsOf((1 << count) - 1);
        }

        /** LAWS, as bits, of the SONGS whose bits are given. */
        int lawsOf(int songBits) {
            int laws = 0;
            for (int song = 0; song < count; song++) {
                laws |= (songBits >> song & 1) == 1 ? 1 << get(song, LAW) : 0;
            }
            return laws;
        }

        int copiesOf(int law, int pitch) {
            int copies = 0;
            for (int song = 0; song < count; song++) {
                copies += get(song, LAW) == law && get(song, PITCH) == pitch ? 1 : 0;
            }
            return copies;
        }

        boolean hasLawIn(int law, int well) {
            return (lawsOf(songsIn(well)) >> law & 1) == 1;
        }

        /** Whether a SONG of the LAW is left behind every RAIN. */
        boolean isSafe(int law) {
            for (int song = 0; song < count; song++) {
                boolean isDry = hasLid(get(song, WELL)) || get(song, LOUD) > FLOOD;
                if (get(song, LAW) == law && isDry) {
                    return true;
                }
            }
            return false;
        }

        boolean isWayOpen(int song, int side, Wells wells) {
            int own = get(song, WELL);
            int next = wellBeside(own, side);
            return wells.has(next) && !hasLid(own) && !hasLid(next);
        }

        static int wellBeside(int well, int side) {
            return side == 0 ? well - 1 : well + 1;
        }

        int singOn(int song, int side, int voice, int pitch, Wells wells) {
            int own = get(song, WELL);
            int slip = wells.stoneOf(own) == CRACKED ? 1 : 0;
            int slips = Math.min(get(song, SLIPS) + slip, MOST_SLIPS);
            breath += voice;
            return add(get(song, LAW), wellBeside(own, side), voice, pitch, slips);
        }

        int goYear(Wells wells) {
            wear(wells);
            int gone = dropFaint();
            for (int song = 0; song < count; song++) {
                set(song, AGE, get(song, AGE) + 1);
            }
            years++;
            return gone;
        }

        void goYears(int n, Wells wells) {
            for (int year = 0; year < n; year++) {
                goYear(wells);
            }
        }

        /**
         * All wear as they are at the YEAR's beginning, so the faint ones are not dropped yet. Crowds
         * are how many SONGS each WELL has of each PITCH: four bits hold a number up to 8.
         */
        void wear(Wells wells) {
            long crowds = 0L;
            for (int song = 0; song < count; song++) {
                crowds += 1L << shiftOfCrowd(get(song, WELL), get(song, PITCH));
            }
            for (int song = 0; song < count; song++) {
                int well = get(song, WELL);
                int crowd = (int) (crowds >>> shiftOfCrowd(well, get(song, PITCH)) & 15L);
                int wear = wells.wearIn(well, hasLid(well)) + crowd - 1;
                set(song, LOUD, get(song, LOUD) - wear);
            }
        }

        static int shiftOfCrowd(int well, int pitch) {
            return 4 * (well * PITCHES + pitch);
        }

        int faintAhead(int place) {
            int faint = 0;
            for (int song = 0; song < place; song++) {
                faint += get(song, LOUD) <= 0 ? 1 : 0;
            }
            return faint;
        }

        int dropFaint() {
            int left = 0;
            for (int song = 0; song < count; song++) {
                if (get(song, LOUD) > 0) {
                    for (int part = 0; left != song && part < SONG_PARTS; part++) {
                        set(left, part, get(song, part));
                    }
                    left++;
                }
            }
            int gone = count - left;
            count = left;
            return gone;
        }

        void flood(int well) {
            for (int song = 0; song < count; song++) {
                if (get(song, WELL) == well) {
                    set(song, LOUD, get(song, LOUD) - FLOOD);
                }
            }
            dropFaint();
        }
    }

    /** The last ACTS, each as what was ahead of it. */
    private static final class Acts {
        private final Songs[] row;
        private int count;

        Acts() {
            row = new Songs[MOST_ACTS];
            for (int act = 0; act < row.length; act++) {
                row[act] = new Songs();
            }
        }

        void remember(Songs songs) {
            if (count >= row.length) {
                forgetFirst();
            }
            if (count >= 0 && count < row.length) {
                Songs ahead = row[count];
                if (ahead != null) {
                    ahead.take(songs);
                    count++;
                }
            }
        }

        /** The first one's Songs go to the end, to be used again. */
        private void forgetFirst() {
            if (row.length == 0) {
                return;
            }
            Songs first = row[0];
            for (int act = 1; act < row.length; act++) {
                row[act - 1] = row[act];
            }
            row[row.length - 1] = first;
            count = row.length - 1;
        }

        boolean takeBack(Songs songs) {
            int last = count - 1;
            if (last < 0 || last >= row.length) {
                return false;
            }
            Songs ahead = row[last];
            if (ahead == null) {
                return false;
            }
            songs.take(ahead);
            count = last;
            return true;
        }
    }
}
