import java.util.ArrayList;
import java.util.List;

/** Long runs of calls, each answered by WellEchoes as by Model. The runs are the same every time. */
public final class ModelTest {
    private static final int RUNS = 3000;
    private static final int CALLS = 512;
    private static final int[] FAR = {-1, 10, 31, 32, 33, 256, 1000, Integer.MIN_VALUE, Integer.MAX_VALUE};

    private static long dice = 20261119L;
    private static WellEchoes echoes;
    private static Model model;
    private static List<String> calls;

    public static void main(String[] args) {
        int wrong = 0;
        for (int run = 0; run < RUNS && wrong < 5; run++) {
            wrong += isRunAsDue(run) ? 0 : 1;
        }
        Check.due("runs not as the model's", wrong, 0);
        Check.end("ModelTest");
    }

    private static int roll(int sides) {
        dice = dice * 2862933555777941757L + 3037000493L;
        return (int) ((dice >>> 33) % sides);
    }

    private static boolean isRunAsDue(int run) {
        echoes = new WellEchoes();
        model = new Model();
        calls = new ArrayList<>();
        if (run % 10 != 0 && !isTold(landText())) {
            return false;
        }
        int acting = roll(4);
        while (calls.size() < CALLS) {
            if (!isStepAsDue(acting)) {
                return false;
            }
        }
        return true;
    }

    private static boolean isStepAsDue(int acting) {
        if (roll(60) == 0 && calls.size() < CALLS - 60) {
            return isTold(roll(3) == 0 ? brokenText() : landText());
        }
        if (roll(4) < acting) {
            return isActAsDue();
        }
        return isQuestionAsDue();
    }

    private static boolean isActAsDue() {
        int songs = (int) model.call("about", new long[] {1});
        switch (roll(8)) {
            case 0: return ask("year");
            case 1: return ask("lid", number(0, 3));
            case 2: return ask("undo");
            case 3: return ask("keep", number(0, 1));
            case 4: return roll(3) == 0 ? ask("again", number(0, 1)) : ask("year");
            default: return ask("sing", number(0, Math.max(songs - 1, 0)), number(0, 1), number(1, 9), number(0, 3));
        }
    }

    private static boolean isQuestionAsDue() {
        switch (roll(20)) {
            case 0: return ask("about", number(0, 8));
            case 1: return ask("well", number(0, 3), number(0, 3));
            case 2: return ask("song", number(0, 7), number(0, 5));
            case 3: return ask("heard", number(0, 3), number(0, 9), roll(2));
            case 4: return ask("songLasts", number(0, 7));
            case 5: return ask("lawLasts", number(0, 5));
            case 6: return ask("lost", number(0, 30)) && ask("lost", number(0, 6));
            case 7: return ask("plan", 1, 0) && ask("plan", 1, 1);
            case 8: return roll(4) != 0 || ask("plan", 2, 0) && ask("plan", 2, 1);
            case 9: return ask("bestLid", number(1, 9));
            case 10: return ask("lamps");
            case 11: return ask("mostPitch", number(0, 5));
            case 12: return ask("truest", number(0, 5));
            case 13: return ask("back", number(0, 3), number(1, 9), number(0, 9));
            case 14: return ask("lords", number(1, 3), number(0, 1));
            case 15: return ask("rain", number(0, 5), number(0, 10), roll(2));
            case 16: return ask("seed", roll(3) == 0 ? roll(100) : dice * 31);
            case 17: return ask("rains", number(1, 20), number(0, 10)) && ask("rains", number(1, 4), number(0, 10));
            case 18: return ask("fault");
            default: return ask("plan", number(1, 2), number(0, 1));
        }
    }

    private static int number(int least, int most) {
        int kind = roll(24);
        if (kind == 0) {
            return FAR[roll(FAR.length)];
        }
        if (kind == 1) {
            return roll(2) == 0 ? least - 1 : most + 1;
        }
        return least + roll(most - least + 1);
    }

    private static boolean isTold(String text) {
        boolean asDue = ask("wipe");
        for (int place = 0; place < text.length(); place++) {
            asDue = asDue && ask("write", text.charAt(place));
        }
        return asDue && ask("fault") && ask("land") && isAllAsDue();
    }

    private static boolean isAllAsDue() {
        boolean asDue = true;
        for (int what = 0; what <= 8; what++) {
            asDue = asDue && ask("about", what);
        }
        for (int song = 0; song < 2; song++) {
            for (int what = 0; what <= 5; what++) {
                asDue = asDue && ask("song", song, what);
            }
        }
        return asDue;
    }

    private static String landText() {
        StringBuilder text = new StringBuilder("L");
        int wells = 1 + roll(4);
        int told = 0;
        int songs = roll(7);
        int crowd = 1 + roll(4);
        while (told < wells || songs > 0) {
            if (told < wells && (told == 0 || roll(2) == 0)) {
                text.append('W').append(1 + roll(9)).append(roll(3));
                told++;
            } else if (songs > 0) {
                text.append('S').append(roll(6)).append(roll(told)).append(1 + roll(9)).append(roll(crowd));
                songs--;
            }
        }
        return text.toString();
    }

    private static String brokenText() {
        StringBuilder text = new StringBuilder(landText());
        int kind = roll(4);
        if (kind == 0) {
            text.setLength(roll(text.length() + 1));
        } else if (kind == 1) {
            text.setCharAt(roll(text.length()), (char) roll(256));
        } else if (kind == 2) {
            text.setCharAt(roll(text.length()), "LWS0123456789:/".charAt(roll(15)));
        } else {
            text.append(landText().substring(1));
            text.setLength(Math.min(text.length(), 58));
        }
        return text.toString();
    }

    /** What is answered behind the last of 512 calls is free. */
    private static boolean ask(String name, long... a) {
        if (calls.size() == CALLS) {
            return true;
        }
        long got = answer(name, a);
        long due = model.call(name, a);
        StringBuilder call = new StringBuilder(name).append('(');
        for (int argument = 0; argument < a.length; argument++) {
            call.append(argument == 0 ? "" : ", ").append(a[argument]);
        }
        calls.add(call.append(") ").append(got).toString());
        if (got != due) {
            System.out.println(calls + " but the model's is " + due);
        }
        return got == due;
    }

    private static long answer(String name, long[] a) {
        int i = a.length > 0 ? (int) a[0] : 0;
        int j = a.length > 1 ? (int) a[1] : 0;
        switch (name) {
            case "write": return echoes.write(i);
            case "wipe": return echoes.wipe();
            case "fault": return echoes.fault();
            case "land": return echoes.land();
            case "about": return echoes.about(i);
            case "well": return echoes.well(i, j);
            case "song": return echoes.song(i, j);
            case "year": return echoes.year();
            case "sing": return echoes.sing(i, j, (int) a[2], (int) a[3]);
            case "lid": return echoes.lid(i);
            case "undo": return echoes.undo();
            case "heard": return echoes.heard(i, j, a[2] == 1);
            case "songLasts": return echoes.songLasts(i);
            case "lawLasts": return echoes.lawLasts(i);
            case "lost": return echoes.lost(i);
            case "plan": return echoes.plan(i, j);
            case "bestLid": return echoes.bestLid(i);
            case "lamps": return echoes.lamps();
            case "mostPitch": return echoes.mostPitch(i);
            case "truest": return echoes.truest(i);
            case "back": return echoes.back(i, j, (int) a[2]);
            case "lords": return echoes.lords(i, j);
            case "rain": return echoes.rain(i, j, a[2] == 1);
            case "seed": return echoes.seed(a[0]);
            case "rains": return echoes.rains(i, j);
            case "keep": return echoes.keep(i);
            case "again": return echoes.again(i);
            default: throw new IllegalArgumentException(name);
        }
    }
}
