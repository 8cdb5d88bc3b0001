import java.util.ArrayList;
import java.util.Arrays;
import java.util.List;

/** The document's terms taken by the letter: all ways, one by one, in order, with no marks at all. */
final class PlainWays {
    static final int TOO_MANY = 200000;

    final int[] kinds = new int[200];
    final int[] values = new int[200];
    final int[] firsts = new int[200];
    final int[] seconds = new int[200];
    int size = 1;
    int beginning = 0;
    int[] subject = new int[0];

    /** All ways from a place, each as its 20 places; null if that is too much to do. */
    List<int[]> waysFrom(int place) {
        List<int[]> ways = new ArrayList<>();
        int[] places = new int[20];
        Arrays.fill(places, -1);
        places[0] = place;
        budget = TOO_MANY;
        go(beginning, place, places, new boolean[size], ways);
        return budget < 0 ? null : ways;
    }

    private int budget;

    private void go(int step, int place, int[] places, boolean[] here, List<int[]> ways) {
        if (--budget < 0 || here[step]) {
            return;
        }
        here[step] = true;
        switch (step == 0 ? 0 : kinds[step]) {
            case 0: {
                int[] way = places.clone();
                way[1] = place;
                ways.add(way);
                break;
            }
            case 1:
                if (place < subject.length && subject[place] >= values[step] / 256
                        && subject[place] <= values[step] % 256) {
                    go(firsts[step], place + 1, places, new boolean[size], ways);
                }
                break;
            case 2:
                go(firsts[step], place, places, here, ways);
                go(seconds[step], place, places, here, ways);
                break;
            case 3: {
                int[] then = places.clone();
                then[values[step]] = place;
                go(firsts[step], place, then, here, ways);
                break;
            }
            case 4:
                if (isSo(values[step], place)) {
                    go(firsts[step], place, places, here, ways);
                }
                break;
            default:
                break;
        }
        here[step] = false;
    }

    boolean saves(int place) {
        for (int k = 1; k < size; k++) {
            if (kinds[k] == 3 && values[k] == place) {
                return true;
            }
        }
        return false;
    }

    boolean isSo(int what, int place) {
        int before = place == 0 ? -1 : subject[place - 1];
        int behind = place == subject.length ? -1 : subject[place];
        boolean edge = isWord(before) && !isWord(behind) || !isWord(before) && isWord(behind);
        boolean[] so = {before == -1, behind == -1, before == -1 || before == 10, behind == -1 || behind == 10, edge,
            !edge};
        return so[what];
    }

    private static boolean isWord(int b) {
        return b >= 0 && "0123456789ABCDEFGHIJKLMNOPQRSTUVWXYZabcdefghijklmnopqrstuvwxyz_".indexOf(b) >= 0;
    }

    static final int[] TOO_MUCH = new int[0];

    /** The match's places, null without a match, TOO_MUCH if it is not found out here. */
    int[] match(int how, boolean longest, int from) {
        for (int place = from; place <= (how == 0 ? subject.length : from); place++) {
            List<int[]> ways = waysFrom(place);
            if (ways == null) {
                return TOO_MUCH;
            }
            int[] best = null;
            for (int[] way : ways) {
                if (how == 2 && way[1] != subject.length) {
                    continue;
                }
                if (best == null || longest && way[1] > best[1]) {
                    best = way;
                }
            }
            if (best != null) {
                return best;
            }
        }
        return null;
    }

    /** A BYTES step that was come to, with what it saved and passed and whether the END came first. */
    private static final class Taker {
        int low;
        int high;
        String tag;
    }

    private boolean twice;
    private boolean endSeen;

    boolean isOneWay() {
        List<Integer> starts = new ArrayList<>();
        starts.add(beginning);
        for (int i = 0; i < starts.size(); i++) {
            List<Taker> takers = new ArrayList<>();
            twice = false;
            endSeen = false;
            look(starts.get(i), new TreeTag(), new boolean[size], takers, starts);
            if (twice || !agree(takers)) {
                return false;
            }
        }
        return starts.size() <= 64;
    }

    private static final class TreeTag {
        final java.util.TreeSet<String> parts = new java.util.TreeSet<>();

        TreeTag with(String part) {
            TreeTag tag = new TreeTag();
            tag.parts.addAll(parts);
            tag.parts.add(part);
            return tag;
        }
    }

    private void look(int step, TreeTag tag, boolean[] met, List<Taker> takers, List<Integer> starts) {
        if (met[step]) {
            twice = true;
            return;
        }
        met[step] = true;
        switch (step == 0 ? 0 : kinds[step]) {
            case 0:
                endSeen = true;
                break;
            case 1: {
                Taker taker = new Taker();
                taker.low = values[step] / 256;
                taker.high = values[step] % 256;
                taker.tag = tag.parts + " " + endSeen + " " + firsts[step];
                takers.add(taker);
                if (!starts.contains(firsts[step])) {
                    starts.add(firsts[step]);
                }
                break;
            }
            case 2:
                look(firsts[step], tag, met, takers, starts);
                look(seconds[step], tag, met, takers, starts);
                break;
            case 3:
                look(firsts[step], tag.with("place " + values[step]), met, takers, starts);
                break;
            case 4:
                look(firsts[step], tag.with("so " + values[step]), met, takers, starts);
                break;
            default:
                break;
        }
    }

    private static boolean agree(List<Taker> takers) {
        for (Taker a : takers) {
            for (Taker b : takers) {
                if (a.low <= b.high && b.low <= a.high && !a.tag.equals(b.tag)) {
                    return false;
                }
            }
        }
        return true;
    }
}
