import java.util.ArrayDeque;
import java.util.ArrayList;
import java.util.HashMap;
import java.util.List;
import java.util.Map;
import java.util.regex.Matcher;
import java.util.regex.Pattern;

/**
 * The document written a second time, with lists, texts and copies, as plainly as it goes: RandomRunsTest
 * asks it what is due. It shares no code and no way of holding things with LetterCrew.
 */
final class PlainModel {
    private static final int NONE = -1, UNKNOWN = -101, OUTSIDE = -102, STATE = -103, FULL = -104;
    private static final String KINDS = "atbmh";
    private static final String STEP = "(?:\\?[0-8]|\\*|![0-5][0-7]|-|x)";
    private static final String ACTOR = "[atbmh]" + STEP + "{1,3}";
    private static final Pattern ACTORS = Pattern.compile(ACTOR + "(?:," + ACTOR + "){0,5};");
    private static final Pattern LINKS = Pattern.compile("(?:[0-5][0-5](?:,[0-5][0-5]){0,5})?");

    private static final class One {
        int kind;
        boolean up = true;
        int step;
        int waited;
        int downs;
        List<String> steps = new ArrayList<>();
        List<int[]> box = new ArrayList<>();
        List<Integer> raises = new ArrayList<>();

        One copy() {
            One c = new One();
            c.kind = kind;
            c.up = up;
            c.step = step;
            c.waited = waited;
            c.downs = downs;
            c.steps = steps;
            c.box = new ArrayList<>(box);
            c.raises = new ArrayList<>(raises);
            return c;
        }
    }

    private static final class All {
        List<One> ones = new ArrayList<>();
        List<int[]> links = new ArrayList<>();
        List<int[]> seen = new ArrayList<>();
        int time;
        int lost;

        All copy() {
            All c = new All();
            for (One one : ones) {
                c.ones.add(one.copy());
            }
            c.links = new ArrayList<>(links);
            c.seen = new ArrayList<>(seen);
            c.time = time;
            c.lost = lost;
            return c;
        }

        void put(int to, int sign, int from) {
            One one = ones.get(to);
            if (one.up && one.box.size() < 5) {
                one.box.add(new int[] {sign, from});
            } else {
                lost++;
            }
        }

        void rise(One one) {
            one.up = true;
            one.step = 0;
            one.waited = 0;
            one.box.clear();
        }

        int falls(int first) {
            int downs = 0;
            ArrayDeque<Integer> row = new ArrayDeque<>();
            row.add(first);
            while (!row.isEmpty()) {
                int at = row.poll();
                One it = ones.get(at);
                if (!it.up) {
                    continue;
                }
                it.up = false;
                it.downs++;
                downs++;
                lost += it.box.size();
                it.box.clear();
                for (int[] link : links) {
                    if (link[0] != at && link[1] != at) {
                        continue;
                    }
                    int otherAt = link[0] + link[1] - at;
                    One other = ones.get(otherAt);
                    if (!other.up) {
                        continue;
                    }
                    if (other.kind == 1) {
                        put(otherAt, 8, at);
                    } else if (other.kind == 2 && other.raises.stream().filter(t -> t >= time - 4).count() < 2) {
                        other.raises.add(time);
                        rise(it);
                    } else {
                        row.add(otherAt);
                    }
                }
            }
            return downs;
        }

        int ticks() {
            time++;
            int on = 0;
            for (int at = 0; at < ones.size(); at++) {
                One one = ones.get(at);
                if (!one.up) {
                    continue;
                }
                String step = one.steps.get(one.step);
                char first = step.charAt(0);
                if ((first == '?' || first == '*') && !taken(one, step)) {
                    one.waited++;
                    if (one.waited < 3) {
                        continue;
                    }
                }
                if (first == '!') {
                    put(step.charAt(1) - '0', step.charAt(2) - '0', at);
                }
                on++;
                one.waited = 0;
                one.step = (one.step + 1) % one.steps.size();
                if (first == 'x') {
                    falls(at);
                }
            }
            return on;
        }

        private static boolean taken(One one, String step) {
            int best = -1;
            for (int i = 0; i < one.box.size(); i++) {
                boolean fits = step.equals("*") || one.box.get(i)[0] == step.charAt(1) - '0';
                if (fits && (best < 0 || one.kind == 4)) {
                    best = i;
                }
            }
            if (best < 0 || one.kind == 3) {
                return false;
            }
            one.box.remove(best);
            return true;
        }

        String asText() {
            StringBuilder text = new StringBuilder();
            for (One one : ones) {
                text.append(one.up).append(' ').append(one.step).append(' ').append(one.waited).append(" [");
                for (int[] letter : one.box) {
                    text.append(letter[0]).append(" of ").append(letter[1]).append(", ");
                }
                text.append("] raised ");
                for (int t : one.raises) {
                    if (time - t <= 4) {
                        text.append(time - t).append(' ');
                    }
                }
                text.append('\n');
            }
            return text.toString();
        }

        int downs() {
            return ones.stream().mapToInt(one -> one.downs).sum();
        }

        int[] linkOf(int one, int other) {
            for (int[] link : links) {
                if ((link[0] == one && link[1] == other) || (link[0] == other && link[1] == one)) {
                    return link;
                }
            }
            return null;
        }
    }

    private String page = "";
    private All now = new All();
    private All image = null;
    private int crews;
    private int rounds;

    private boolean unknown(int actor) {
        return actor < 0 || actor >= now.ones.size();
    }

    int letter(int code) {
        if (code < 32 || code > 126) {
            return OUTSIDE;
        }
        if (page.length() == 84) {
            return FULL;
        }
        page += (char) code;
        return page.length();
    }

    int blank() {
        int had = page.length();
        page = "";
        return had;
    }

    /** Whether a crew could begin so. */
    private static boolean mayBegin(String text) {
        int end = text.indexOf(';');
        if (end < 0) {
            return couldMatch(ACTORS, text);
        }
        String before = text.substring(0, end + 1);
        String behind = text.substring(end + 1);
        if (!ACTORS.matcher(before).matches() || !couldMatch(LINKS, behind)) {
            return false;
        }
        int actors = before.split(",").length;
        List<String> told = new ArrayList<>();
        for (String link : behind.split(",")) {
            for (char c : link.toCharArray()) {
                if (c - '0' >= actors) {
                    return false;
                }
            }
            if (link.length() == 2) {
                String turned = "" + link.charAt(1) + link.charAt(0);
                if (link.equals(turned) || told.contains(link) || told.contains(turned)) {
                    return false;
                }
                told.add(link);
            }
        }
        return true;
    }

    private static boolean couldMatch(Pattern pattern, String text) {
        Matcher m = pattern.matcher(text);
        return m.matches() || m.hitEnd();
    }

    int fault() {
        int place = 0;
        while (place < page.length() && mayBegin(page.substring(0, place + 1))) {
            place++;
        }
        return place;
    }

    int crew() {
        int end = page.indexOf(';');
        if (end < 0 || fault() < page.length() || !LINKS.matcher(page.substring(end + 1)).matches()) {
            return STATE;
        }
        All next = new All();
        for (String text : page.substring(0, end).split(",")) {
            One one = new One();
            one.kind = KINDS.indexOf(text.charAt(0));
            Matcher m = Pattern.compile(STEP).matcher(text.substring(1));
            while (m.find()) {
                one.steps.add(m.group());
            }
            next.ones.add(one);
        }
        for (One one : next.ones) {
            for (String step : one.steps) {
                if (step.charAt(0) == '!' && step.charAt(1) - '0' >= next.ones.size()) {
                    return STATE;
                }
            }
        }
        for (int i = end + 1; i < page.length(); i += 3) {
            next.links.add(new int[] {page.charAt(i) - '0', page.charAt(i + 1) - '0'});
        }
        now = next;
        image = null;
        page = "";
        crews++;
        return now.ones.size();
    }

    private static boolean could(int kind, int what) {
        switch (what) {
            case 0: return kind == 4;
            case 1: return kind <= 2;
            case 2: return kind != 1 && kind != 2;
            default: return kind == 2;
        }
    }

    private List<Integer> sorts(int actor) {
        List<Integer> kinds = new ArrayList<>();
        for (int kind = 0; kind < 5; kind++) {
            boolean fits = true;
            for (int[] s : now.seen) {
                fits &= s[0] != actor || could(kind, s[1]) == (s[2] == 1);
            }
            if (fits) {
                kinds.add(kind);
            }
        }
        return kinds;
    }

    private int ask(int actor) {
        List<Integer> kinds = sorts(actor);
        int best = NONE;
        int fewest = 99;
        for (int what = 0; what < 4 && !kinds.isEmpty(); what++) {
            int yes = 0;
            int no = 0;
            for (int kind : kinds) {
                if (could(kind, what)) {
                    yes++;
                } else {
                    no++;
                }
            }
            if (Math.max(yes, no) < fewest) {
                fewest = Math.max(yes, no);
                best = what;
            }
        }
        return best;
    }

    int actor(int actor, int what) {
        if (unknown(actor)) {
            return UNKNOWN;
        }
        One one = now.ones.get(actor);
        switch (what) {
            case 0: return one.kind;
            case 1: return one.up ? 1 : 0;
            case 2: return one.step;
            case 3: return one.waited;
            case 4: return one.box.size();
            case 5: return one.downs;
            case 6: return one.steps.size();
            case 7: return sorts(actor).stream().mapToInt(kind -> 1 << kind).sum();
            case 8: return ask(actor);
            case 9: return (int) now.links.stream().filter(l -> l[0] == actor || l[1] == actor).count();
            default: return OUTSIDE;
        }
    }

    int box(int actor, int place, int what) {
        if (unknown(actor) || place < 0 || place >= now.ones.get(actor).box.size()) {
            return UNKNOWN;
        }
        return what < 0 || what > 1 ? OUTSIDE : now.ones.get(actor).box.get(place)[what];
    }

    int as(int actor, int kind) {
        if (unknown(actor)) {
            return UNKNOWN;
        }
        if (kind < 0 || kind > 4) {
            return OUTSIDE;
        }
        String kinds = new String[] {"0", "01", "012", "03", "04"}[now.ones.get(actor).kind];
        return kinds.contains("" + kind) ? actor : NONE;
    }

    int send(int actor, int sign) {
        if (unknown(actor)) {
            return UNKNOWN;
        }
        if (sign < 0 || sign > 8) {
            return OUTSIDE;
        }
        One one = now.ones.get(actor);
        if (!one.up) {
            return STATE;
        }
        if (one.box.size() == 5) {
            return FULL;
        }
        one.box.add(new int[] {sign, NONE});
        return one.box.size();
    }

    int tick(int times) {
        if (times < 1 || times > 50) {
            return OUTSIDE;
        }
        if (now.ones.isEmpty()) {
            return STATE;
        }
        if (now.time + times > 9999) {
            return FULL;
        }
        int on = 0;
        for (int i = 0; i < times; i++) {
            on += now.ticks();
        }
        return on;
    }

    int fell(int actor) {
        if (unknown(actor)) {
            return UNKNOWN;
        }
        return now.ones.get(actor).up ? now.falls(actor) : STATE;
    }

    int raise(int actor) {
        if (unknown(actor)) {
            return UNKNOWN;
        }
        if (now.ones.get(actor).up) {
            return STATE;
        }
        now.rise(now.ones.get(actor));
        return count(1);
    }

    int tie(int one, int other) {
        if (unknown(one) || unknown(other) || one == other) {
            return UNKNOWN;
        }
        if (now.linkOf(one, other) != null) {
            return STATE;
        }
        if (now.links.size() == 6) {
            return FULL;
        }
        now.links.add(new int[] {one, other});
        return now.links.size();
    }

    int cut(int one, int other) {
        if (unknown(one) || unknown(other)) {
            return UNKNOWN;
        }
        return now.links.remove(now.linkOf(one, other)) ? now.links.size() : STATE;
    }

    int be(int actor, int kind) {
        if (unknown(actor)) {
            return UNKNOWN;
        }
        if (kind < 0 || kind > 4) {
            return OUTSIDE;
        }
        One one = now.ones.get(actor);
        int was = one.kind;
        one.kind = kind;
        one.raises.clear();
        return was;
    }

    int round(int what) {
        if (what < 0 || what > 1) {
            return OUTSIDE;
        }
        if (now.ones.isEmpty() || rounds == 6) {
            return STATE;
        }
        rounds++;
        All would = now.copy();
        Map<String, Integer> first = new HashMap<>();
        for (int after = 0; after <= 60; after++) {
            Integer before = first.putIfAbsent(would.asText(), after);
            if (before != null) {
                return what == 0 ? before : after - before;
            }
            would.ticks();
        }
        return NONE;
    }

    int see(int actor, int what, boolean could) {
        if (unknown(actor)) {
            return UNKNOWN;
        }
        if (what < 0 || what > 3) {
            return OUTSIDE;
        }
        if (now.seen.size() == 6) {
            return FULL;
        }
        now.seen.add(new int[] {actor, what, could ? 1 : 0});
        return now.seen.size();
    }

    int forget() {
        int had = now.seen.size();
        now.seen.clear();
        return had;
    }

    int drawn(int times, int seed, int what) {
        if (times < 1 || times > 30 || seed < 0 || what < 0 || what > 2) {
            return OUTSIDE;
        }
        if (now.ones.isEmpty()) {
            return STATE;
        }
        All would = now.copy();
        long[] at = {seed};
        for (int i = 0; i < times; i++) {
            int to = draw(at, now.ones.size());
            would.put(to, draw(at, 8), NONE);
            would.ticks();
        }
        return new int[] {would.lost - now.lost, would.downs() - now.downs(), (int) at[0]}[what];
    }

    private static int draw(long[] at, int many) {
        at[0] = Math.floorMod(1103515245L * at[0] + 12345L, 1L << 31);
        return (int) ((at[0] >> 16) % many);
    }

    int image() {
        if (now.ones.isEmpty()) {
            return STATE;
        }
        image = now.copy();
        return now.time;
    }

    int restore() {
        if (image == null) {
            return STATE;
        }
        now = image.copy();
        return now.time;
    }

    int count(int what) {
        switch (what) {
            case 0: return now.ones.size();
            case 1: return (int) now.ones.stream().filter(one -> one.up).count();
            case 2: return now.links.size();
            case 3: return now.time;
            case 4: return now.ones.stream().mapToInt(one -> one.box.size()).sum();
            case 5: return now.lost;
            case 6: return now.downs();
            case 7: return now.seen.size();
            case 8: return page.length();
            case 9: return crews;
            case 10: return rounds;
            default: return OUTSIDE;
        }
    }

    long digest() {
        List<Integer> numbers = new ArrayList<>();
        for (int actor = 0; actor < now.ones.size(); actor++) {
            for (int what = 0; what <= 9; what++) {
                numbers.add(actor(actor, what));
            }
            for (int[] letter : now.ones.get(actor).box) {
                numbers.add(letter[0]);
                numbers.add(letter[1]);
            }
        }
        page.chars().forEach(numbers::add);
        for (int what = 0; what <= 10; what++) {
            numbers.add(count(what));
        }
        long h = 1399;
        for (int number : numbers) {
            h = 31 * h + number;
        }
        return h;
    }
}
