import java.util.ArrayList;
import java.util.List;
import java.util.regex.Matcher;
import java.util.regex.Pattern;

/** The document's words once more, in another way and without any haste, for ModelTest and Plain. */
final class Model {
    private static final String SECONDS = "(?:0[1-9]|[1-5][0-9]|60)";
    private static final Pattern TEXT =
        Pattern.compile("[hb](?:;(?:p[1-9][1-9]" + SECONDS + "|s|r" + SECONDS + ")){1,8}");

    /** kind, hard, wet, glow of each. */
    final List<int[]> woods = new ArrayList<>();
    int arms = 300;
    int grip = 6;
    int cold = 5;
    int heap = 20;

    static boolean isText(String text) {
        return TEXT.matcher(text).matches();
    }

    /** By trying each beginning: can it become a TEXT? */
    static int firstFault(String text) {
        for (int p = 0; p < text.length(); p++) {
            Matcher m = TEXT.matcher(text.substring(0, p + 1));
            if (m.matches() || m.hitEnd()) continue;
            boolean secondDigit = text.substring(0, p + 1).matches(".*;(p[1-9][1-9]|r)[0-6][0-9]");
            return secondDigit ? p - 1 : p;
        }
        return text.length();
    }

    /** A row of press and quick for each SECOND, null for sand. */
    static List<int[]> steps(String text) {
        List<int[]> steps = new ArrayList<>();
        for (String item : text.substring(2).split(";")) {
            if (item.equals("s")) {
                steps.add(null);
                continue;
            }
            boolean press = item.startsWith("p");
            int seconds = Integer.parseInt(item.substring(item.length() - 2));
            int[] step = press ? new int[] {item.charAt(1) - '0', item.charAt(2) - '0'} : new int[] {0, 0};
            for (int s = 0; s < seconds; s++) steps.add(step);
        }
        return steps;
    }

    static int secondsOf(List<int[]> steps) {
        int seconds = 0;
        for (int[] step : steps) if (step != null) seconds++;
        return seconds;
    }

    /** The first k SECONDS, and the sand ahead of the next one. */
    static List<int[]> first(List<int[]> steps, int k) {
        List<int[]> out = new ArrayList<>();
        int seconds = 0;
        for (int[] step : steps) {
            if (step != null && seconds == k) break;
            if (step != null) seconds++;
            out.add(step);
        }
        return out;
    }

    static List<int[]> grown(List<int[]> steps, int press, int quick, int toSeconds) {
        List<int[]> out = new ArrayList<>(steps);
        for (int s = secondsOf(steps); s < toSeconds; s++) out.add(new int[] {press, quick});
        return out;
    }

    int powder(int[] wood, int press) {
        int plain = press * (10 - wood[1]) / 10;
        return wood[0] == 0 ? plain : plain + plain;
    }

    int point(int[] wood) {
        return wood[3] * 10 + (wood[0] == 2 ? 50 : 0);
    }

    /** HEAT, DUST, WATER, GLAZE, STRENGTH, slips, tires behind all; then EMBER, its DUST. */
    int[] state(boolean bow, List<int[]> steps, int spindle, int board, int armsNow) {
        int[] a = woods.get(spindle);
        int[] b = woods.get(board);
        int heat = 0, dust = 0, glaze = 0, water = a[2] + b[2], strength = armsNow, slips = 0, tires = 0;
        int second = 0, ember = EmberDrill.NONE, emberDust = 0;
        for (int[] step : steps) {
            if (step == null) {
                glaze = 0;
                continue;
            }
            second++;
            int cools = heat * cold / 100;
            boolean tired = step[0] > 0 && strength < step[0] + step[1];
            if (tired) tires++;
            if (tired || step[0] == 0) {
                heat -= cools;
                strength = strength + 3 > armsNow ? armsNow : strength + 3;
            } else {
                strength -= step[0] + step[1];
                int work = step[0] * step[1];
                if (bow && step[0] > grip) {
                    work = 0;
                    slips++;
                }
                if (!bow && second % 5 == 0) work = 0;
                if (glaze >= 5) work = work / 2;
                while (water > 0 && work >= 2) {
                    water--;
                    work -= 2;
                }
                heat = heat + work - cools;
                if (heat >= 100) dust += powder(a, step[0]) + powder(b, step[0]);
                if (step[0] > step[1] + step[1]) glaze++;
            }
            if (ember == EmberDrill.NONE && dust >= heap && heat >= point(a) && heat >= point(b)) {
                ember = second;
                emberDust = dust;
            }
        }
        return new int[] {heat, dust, water, glaze, strength, slips, tires, ember, emberDust};
    }

    int comes(int[] state) {
        if (state[7] != EmberDrill.NONE) return 0;
        if (state[2] > 0) return 1;
        if (state[3] >= 5) return 2;
        if (state[5] > 0) return 3;
        if (state[6] > 0) return 4;
        if (state[1] > 0) return 5;
        return 6;
    }

    int[] grid(boolean bow, int spindle, int board) {
        int[] best = {EmberDrill.NONE, EmberDrill.NONE, EmberDrill.NONE};
        for (int press = 9; press >= 1; press--) {
            for (int quick = 9; quick >= 1; quick--) {
                List<int[]> steps = grown(new ArrayList<>(), press, quick, 120);
                int ember = state(bow, steps, spindle, board, arms)[7];
                if (ember == EmberDrill.NONE) continue;
                if (best[0] == EmberDrill.NONE || ember <= best[0]) best = new int[] {ember, press, quick};
            }
        }
        return best;
    }

    int[] finish(boolean bow, List<int[]> plan, int spindle, int board) {
        int[] best = {EmberDrill.NONE, EmberDrill.NONE};
        for (int k = secondsOf(plan); k >= 0; k--) {
            int ember = state(bow, grown(first(plan, k), 9, 9, 120), spindle, board, arms)[7];
            if (ember == EmberDrill.NONE) continue;
            if (best[0] == EmberDrill.NONE || ember <= best[0]) best = new int[] {ember, k};
        }
        return best;
    }

    static int flame(int glimmer, int dry, int loose, int b) {
        int g = glimmer;
        int s = 0;
        while (s < 60) {
            s++;
            g += loose * b / 4;
            g -= 10 - dry;
            if (b > 6) g -= b;
            if (g >= 100) return s;
            if (g <= 0) break;
        }
        return EmberDrill.NONE;
    }

    static int carried(int glimmer, int horn) {
        int hours = 0;
        for (int g = glimmer - glimmer / horn - 1; g >= 5; g = g - g / horn - 1) hours++;
        return hours;
    }

    /** The sum of DAYS, then the order: by each order of all things, the first as a row first. */
    static int[] lessons(int f, int[] pupils) {
        int[] best = null;
        for (int code = 0; code < (int) Math.pow(f, f); code++) {
            int[] row = new int[f + 1];
            int rest = code;
            int seen = 0;
            for (int d = f; d >= 1; d--) {
                row[d] = rest % f;
                rest /= f;
                seen |= 1 << row[d];
            }
            if (seen != (1 << f) - 1) continue;
            for (int pupil : pupils) {
                int last = 0;
                for (int d = 1; d <= f; d++) if ((pupil >> row[d] & 1) == 1) last = d;
                row[0] += last;
            }
            if (best == null || row[0] < best[0]) best = row;
        }
        return best;
    }
}
