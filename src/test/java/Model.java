import java.math.BigInteger;
import java.util.ArrayDeque;
import java.util.ArrayList;
import java.util.Deque;
import java.util.List;
import java.util.regex.Matcher;
import java.util.regex.Pattern;

/**
 * The document once more, written as its words go and without regard to speed, for ModelTest: faults
 * by trying what may come behind, plans and lords way by way, rains flood by flood.
 */
final class Model {
    private static final Pattern PART = Pattern.compile("W([1-9])([0-2])|S([0-5])([0-3])([1-9])([0-3])");

    /** A song; two copies of one song are told apart by nothing but their place in the row. */
    private record Song(int law, int well, int loud, int pitch, int age, int slips) {
    }

    private record State(List<Song> songs, List<Boolean> lids, int year, int breath) {
    }

    private final StringBuilder text = new StringBuilder();
    private List<int[]> wells = new ArrayList<>();
    private State now = new State(List.of(), List.of(), 0, 0);
    private int landLaws;
    private Deque<State> acts = new ArrayDeque<>();
    private State[] slots = new State[2];
    private long seed;

    long call(String name, long[] a) {
        int i = a.length > 0 ? (int) a[0] : 0;
        int j = a.length > 1 ? (int) a[1] : 0;
        switch (name) {
            case "write": return write(i);
            case "wipe": return wipe();
            case "fault": return fault();
            case "land": return land();
            case "about": return about(i);
            case "well": return well(i, j);
            case "song": return song(i, j);
            case "year": return year();
            case "sing": return sing(i, j, (int) a[2], (int) a[3]);
            case "lid": return lid(i);
            case "undo": return undo();
            case "heard": return heard(i, j, a[2] == 1);
            case "songLasts": return songLasts(i);
            case "lawLasts": return lawLasts(i);
            case "lost": return lost(i);
            case "plan": return plan(i, j);
            case "bestLid": return bestLid(i);
            case "lamps": return lamps();
            case "mostPitch": return mostPitch(i);
            case "truest": return truest(i);
            case "back": return back(i, j, (int) a[2]);
            case "lords": return lords(i, j);
            case "rain": return rain(i, j, a[2] == 1);
            case "seed": return seed(a[0]);
            case "rains": return rains(i, j);
            case "keep": return keep(i);
            case "again": return again(i);
            default: throw new IllegalArgumentException(name);
        }
    }

    private static boolean out(int number, int least, int most) {
        return number < least || number > most;
    }

    private int write(int letter) {
        if (out(letter, 0, 255)) {
            return -2;
        }
        if (text.length() == 56) {
            return -4;
        }
        text.append((char) letter);
        return text.length();
    }

    private int wipe() {
        int length = text.length();
        text.setLength(0);
        return length;
    }

    private static boolean isLand(String told) {
        if (!told.startsWith("L")) {
            return false;
        }
        Matcher parts = PART.matcher(told);
        int place = 1;
        int wellsTold = 0;
        int songsTold = 0;
        while (place < told.length()) {
            if (!parts.find(place) || parts.start() != place) {
                return false;
            }
            if (parts.group(1) != null) {
                wellsTold++;
            } else {
                songsTold++;
                if (Integer.parseInt(parts.group(4)) >= wellsTold) {
                    return false;
                }
            }
            place = parts.end();
        }
        return wellsTold <= 4 && songsTold <= 6;
    }

    /** 0 and 1 are digits that do where any do, in a WELL that was told. */
    private static boolean canBecomeLand(String told, int more) {
        if (isLand(told)) {
            return true;
        }
        if (more == 0) {
            return false;
        }
        return canBecomeLand(told + "1", more - 1) || canBecomeLand(told + "0", more - 1)
                || canBecomeLand(told + "L", more - 1);
    }

    private int fault() {
        String told = text.toString();
        for (int length = 1; length <= told.length(); length++) {
            if (!canBecomeLand(told.substring(0, length), 4)) {
                return length - 1;
            }
        }
        return isLand(told) ? -9 : told.length();
    }

    private int land() {
        if (fault() != -9) {
            return -3;
        }
        wells = new ArrayList<>();
        List<Song> songs = new ArrayList<>();
        Matcher parts = PART.matcher(text);
        while (parts.find()) {
            if (parts.group(1) != null) {
                wells.add(new int[] {digit(parts, 1), digit(parts, 2)});
            } else {
                songs.add(new Song(digit(parts, 3), digit(parts, 4), digit(parts, 5), digit(parts, 6), 0, 0));
            }
        }
        List<Boolean> lids = new ArrayList<>();
        for (int well = 0; well < wells.size(); well++) {
            lids.add(false);
        }
        now = new State(songs, lids, 0, 0);
        landLaws = laws(now);
        acts = new ArrayDeque<>();
        slots = new State[2];
        return 10 * wells.size() + songs.size();
    }

    private static int digit(Matcher parts, int group) {
        return Integer.parseInt(parts.group(group));
    }

    private static int laws(State state) {
        int bits = 0;
        for (Song song : state.songs) {
            bits |= 1 << song.law;
        }
        return bits;
    }

    private int landLawsIn(State state) {
        return Integer.bitCount(laws(state) & landLaws);
    }

    private int about(int what) {
        int lids = 0;
        for (int well = 0; well < wells.size(); well++) {
            lids += now.lids.get(well) ? 1 << well : 0;
        }
        int[] all = {wells.size(), now.songs.size(), now.year, now.breath, lids, landLaws, laws(now),
            acts.size(), text.length()};
        return out(what, 0, 8) ? -2 : all[what];
    }

    private int well(int well, int what) {
        if (out(well, 0, wells.size() - 1)) {
            return -1;
        }
        int songs = 0;
        for (int song = 0; song < now.songs.size(); song++) {
            songs += now.songs.get(song).well == well ? 1 << song : 0;
        }
        int[] all = {wells.get(well)[0], wells.get(well)[1], now.lids.get(well) ? 1 : 0, songs};
        return out(what, 0, 3) ? -2 : all[what];
    }

    private int song(int number, int what) {
        if (out(number, 0, now.songs.size() - 1)) {
            return -1;
        }
        Song song = now.songs.get(number);
        int[] all = {song.law, song.well, song.loud, song.pitch, song.age, song.slips};
        return out(what, 0, 5) ? -2 : all[what];
    }

    /** Each song behind a YEAR in its old place; null for one that is gone. */
    private List<Song> worn(State state) {
        List<Song> row = new ArrayList<>();
        for (int number = 0; number < state.songs.size(); number++) {
            Song song = state.songs.get(number);
            int loud = song.loud - 1 - wells.get(song.well)[1];
            if (state.lids.get(song.well)) {
                loud++;
            }
            for (int other = 0; other < state.songs.size(); other++) {
                Song beside = state.songs.get(other);
                if (other != number && beside.well == song.well && beside.pitch == song.pitch) {
                    loud--;
                }
            }
            row.add(loud > 0
                    ? new Song(song.law, song.well, loud, song.pitch, song.age + 1, song.slips) : null);
        }
        return row;
    }

    private State behindYear(State state) {
        List<Song> left = new ArrayList<>();
        for (Song song : worn(state)) {
            if (song != null) {
                left.add(song);
            }
        }
        return new State(left, state.lids, state.year + 1, state.breath);
    }

    private State behind(State state, int years) {
        State last = state;
        for (int year = 0; year < years; year++) {
            last = behindYear(last);
        }
        return last;
    }

    private void act(State next) {
        acts.addLast(now);
        if (acts.size() > 12) {
            acts.removeFirst();
        }
        now = next;
    }

    private int year() {
        State next = behindYear(now);
        int gone = now.songs.size() - next.songs.size();
        act(next);
        return gone;
    }

    /** 0, or the refusal's number. */
    private int refusal(State state, int song, int side) {
        int own = state.songs.get(song).well;
        int beside = side == 0 ? own - 1 : own + 1;
        if (out(beside, 0, wells.size() - 1) || state.lids.get(own) || state.lids.get(beside)) {
            return -3;
        }
        return state.songs.size() == 8 ? -4 : 0;
    }

    private State sung(State state, int number, int side, int voice, int pitch) {
        Song old = state.songs.get(number);
        int slips = wells.get(old.well)[1] == 2 ? Math.min(9, old.slips + 1) : old.slips;
        List<Song> songs = new ArrayList<>(state.songs);
        songs.add(new Song(old.law, side == 0 ? old.well - 1 : old.well + 1, voice, pitch, 0, slips));
        return new State(songs, state.lids, state.year, state.breath + voice);
    }

    private int sing(int song, int side, int voice, int pitch) {
        if (out(song, 0, now.songs.size() - 1)) {
            return -1;
        }
        if (out(side, 0, 1) || out(voice, 1, 9) || out(pitch, 0, 3)) {
            return -2;
        }
        int refusal = refusal(now, song, side);
        if (refusal != 0) {
            return refusal;
        }
        act(sung(now, song, side, voice, pitch));
        return now.songs.size() - 1;
    }

    private static State withLidTurned(State state, int well) {
        List<Boolean> lids = new ArrayList<>(state.lids);
        lids.set(well, !lids.get(well));
        return new State(state.songs, lids, state.year, state.breath);
    }

    private int lid(int well) {
        if (out(well, 0, wells.size() - 1)) {
            return -1;
        }
        act(withLidTurned(now, well));
        return now.lids.get(well) ? 1 : 0;
    }

    private int undo() {
        if (acts.isEmpty()) {
            return -3;
        }
        now = acts.removeLast();
        return acts.size();
    }

    private int heard(int well, int x, boolean noon) {
        if (out(well, 0, wells.size() - 1)) {
            return -1;
        }
        return out(x, 0, 9) ? -2 : heardSongs(well, x, noon);
    }

    private int heardSongs(int well, int x, boolean noon) {
        int depth = wells.get(well)[0];
        int lamp = x > depth ? depth : x;
        int bits = 0;
        for (int number = 0; number < now.songs.size(); number++) {
            Song song = now.songs.get(number);
            int lies = song.age > depth ? depth : song.age;
            int way = lies > lamp ? lies - lamp : lamp - lies;
            boolean high = song.pitch == 2 || song.pitch == 3;
            if (song.well == well && song.loud > way && !now.lids.get(well) && !(noon && high)) {
                bits += 1 << number;
            }
        }
        return bits;
    }

    private int songLasts(int number) {
        if (out(number, 0, now.songs.size() - 1)) {
            return -1;
        }
        State state = now;
        int place = number;
        for (int years = 1; years <= 99; years++) {
            List<Song> row = worn(state);
            if (row.get(place) == null) {
                return years;
            }
            int left = 0;
            for (Song song : row.subList(0, place)) {
                left += song != null ? 1 : 0;
            }
            place = left;
            state = behindYear(state);
        }
        return 99;
    }

    private int lawLasts(int law) {
        if (out(law, 0, 5)) {
            return -2;
        }
        int years = 0;
        State state = now;
        while (years < 99 && (laws(state) & 1 << law) != 0) {
            state = behindYear(state);
            years++;
        }
        return years;
    }

    private int lost(int n) {
        return out(n, 0, 30) ? -2 : landLaws & ~laws(behind(now, n));
    }

    /** All that can be done ahead of a YEAR, in the document's order: {0} or {1, song, side}. */
    private List<int[]> deeds(State state) {
        List<int[]> all = new ArrayList<>();
        all.add(new int[] {0, 0, 0});
        for (int song = 0; song < state.songs.size(); song++) {
            for (int side = 0; side < 2; side++) {
                if (refusal(state, song, side) == 0) {
                    all.add(new int[] {1, song, side});
                }
            }
        }
        return all;
    }

    private State behindDeed(State state, int[] deed) {
        State done = deed[0] == 0 ? state
                : sung(state, deed[1], deed[2], 6, state.songs.get(deed[1]).pitch);
        return behindYear(done);
    }

    private int plan(int n, int what) {
        if (out(n, 1, 2) || out(what, 0, 1)) {
            return -2;
        }
        int most = -1;
        int fewest = 0;
        int[] first = null;
        for (int[] one : deeds(now)) {
            State state = behindDeed(now, one);
            List<int[]> seconds = n == 2 ? deeds(state) : List.of(new int[] {0, 0, 0});
            for (int[] two : seconds) {
                State last = behind(n == 2 ? behindDeed(state, two) : state, 3);
                int had = landLawsIn(last);
                int sungOn = one[0] + two[0];
                if (had > most || had == most && sungOn < fewest) {
                    most = had;
                    fewest = sungOn;
                    first = one;
                }
            }
        }
        return what == 0 ? most : first[0] == 0 ? 0 : 1 + 2 * first[1] + first[2];
    }

    private int bestLid(int n) {
        if (out(n, 1, 9)) {
            return -2;
        }
        int without = landLawsIn(behind(now, n));
        int best = -9;
        int most = -1;
        for (int well = 0; well < wells.size(); well++) {
            if (!now.lids.get(well)) {
                int had = landLawsIn(behind(withLidTurned(now, well), n));
                if (had > most) {
                    most = had;
                    best = well;
                }
            }
        }
        return most > without ? best : -9;
    }

    private int lamps() {
        for (int count = 0; count <= 6; count++) {
            if (canTell(laws(now), count, 0)) {
                return count;
            }
        }
        return -9;
    }

    /** Whether so many lamps, from that place on (ten to a WELL), can tell the LAWS that are wanted. */
    private boolean canTell(int wanted, int count, int from) {
        if (wanted == 0) {
            return true;
        }
        for (int place = from; count > 0 && place < 10 * wells.size(); place++) {
            int heard = heardSongs(place / 10, place % 10, false);
            int told = 0;
            for (int song = 0; song < now.songs.size(); song++) {
                told |= (heard & 1 << song) != 0 ? 1 << now.songs.get(song).law : 0;
            }
            if ((told & wanted) != 0 && canTell(wanted & ~told, count - 1, place + 1)) {
                return true;
            }
        }
        return false;
    }

    private int mostPitch(int law) {
        if (out(law, 0, 5)) {
            return -2;
        }
        int[] copies = new int[4];
        for (Song song : now.songs) {
            copies[song.pitch] += song.law == law ? 1 : 0;
        }
        for (int pitch = 0; pitch < 4; pitch++) {
            boolean isMost = copies[pitch] > 0;
            for (int other = 0; other < 4; other++) {
                isMost &= other == pitch || copies[other] < copies[pitch];
            }
            if (isMost) {
                return pitch;
            }
        }
        return -9;
    }

    private int truest(int law) {
        if (out(law, 0, 5)) {
            return -2;
        }
        for (int slips = 0; slips <= 9; slips++) {
            for (int song = 0; song < now.songs.size(); song++) {
                if (now.songs.get(song).law == law && now.songs.get(song).slips == slips) {
                    return song;
                }
            }
        }
        return -9;
    }

    private int back(int well, int v, int n) {
        if (out(well, 0, wells.size() - 1)) {
            return -1;
        }
        if (out(v, 1, 9) || out(n, 0, 9)) {
            return -2;
        }
        int loud = v;
        for (int year = 0; year < n; year++) {
            loud += wells.get(well)[1] + 1;
            loud -= now.lids.get(well) ? 1 : 0;
        }
        return loud;
    }

    private int lords(int n, int what) {
        if (out(n, 1, 3) || out(what, 0, 1)) {
            return -2;
        }
        int best = -1;
        int first = 0;
        for (int move = 0; move <= wells.size(); move++) {
            int had = lordsValue(moved(now, move), 2, n);
            if (had > best) {
                best = had;
                first = move;
            }
        }
        return what == 0 ? best : first;
    }

    private static State moved(State state, int move) {
        return move == 0 ? state : withLidTurned(state, move - 1);
    }

    private int lordsValue(State state, int turn, int n) {
        if (turn > n) {
            return landLawsIn(behind(state, 4));
        }
        int best = turn % 2 == 1 ? -1 : 99;
        for (int move = 0; move <= wells.size(); move++) {
            int had = lordsValue(moved(state, move), turn + 1, n);
            best = turn % 2 == 1 ? Math.max(best, had) : Math.min(best, had);
        }
        return best;
    }

    private static State flooded(State state, int well) {
        List<Song> left = new ArrayList<>();
        for (Song song : state.songs) {
            if (song.well != well) {
                left.add(song);
            } else if (song.loud > 3) {
                left.add(new Song(song.law, well, song.loud - 3, song.pitch, song.age, song.slips));
            }
        }
        return new State(left, state.lids, state.year, state.breath);
    }

    private int rain(int law, int r, boolean upper) {
        if (out(law, 0, 5) || out(r, 0, 10)) {
            return -2;
        }
        long above = 0;
        for (int floods = 0; floods < 1 << wells.size(); floods++) {
            long weight = 1;
            State state = now;
            for (int well = 0; well < wells.size(); well++) {
                boolean isFlooded = (floods & 1 << well) != 0;
                if (now.lids.get(well)) {
                    weight *= isFlooded ? 0 : 10;
                } else {
                    weight *= isFlooded ? r : 10 - r;
                    state = isFlooded ? flooded(state, well) : state;
                }
            }
            above += (laws(state) & 1 << law) != 0 ? weight : 0;
        }
        BigInteger numerator = BigInteger.valueOf(above);
        BigInteger denominator = BigInteger.TEN.pow(wells.size());
        BigInteger common = numerator.gcd(denominator);
        return (upper ? numerator : denominator).divide(common).intValueExact();
    }

    private long seed(long v) {
        long before = seed;
        seed = v;
        return before;
    }

    private int rains(int m, int r) {
        if (out(m, 1, 20) || out(r, 0, 10)) {
            return -2;
        }
        BigInteger all = BigInteger.ONE.shiftLeft(64);
        State state = now;
        for (int time = 0; time < m; time++) {
            state = behindYear(state);
            for (int well = 0; well < wells.size(); well++) {
                if (!now.lids.get(well)) {
                    BigInteger x = BigInteger.valueOf(seed).multiply(new BigInteger("6364136223846793005"))
                            .add(new BigInteger("1442695040888963407")).mod(all);
                    seed = x.longValue();
                    state = x.shiftRight(33).mod(BigInteger.TEN).intValue() < r ? flooded(state, well) : state;
                }
            }
        }
        return laws(state);
    }

    private int keep(int slot) {
        if (out(slot, 0, 1)) {
            return -1;
        }
        slots[slot] = now;
        return now.songs.size();
    }

    private int again(int slot) {
        if (out(slot, 0, 1)) {
            return -1;
        }
        if (slots[slot] == null) {
            return -3;
        }
        now = slots[slot];
        acts = new ArrayDeque<>();
        return now.songs.size();
    }
}
