import java.util.ArrayList;
import java.util.HashMap;
import java.util.HashSet;
import java.util.List;
import java.util.Map;
import java.util.Set;
import java.util.TreeSet;

/**
 * The document once more, word by word and without any thrift: sets of objects, recursion, and all
 * permutations tried. Each call answers a number, or the name of the exception that is due.
 */
final class Model {
    static final class Fault extends RuntimeException {
        Fault(String name) {
            super(name);
        }
    }

    static final class Work {
        Set<Integer> owners = new TreeSet<>();
        int rating;
        List<Integer> chapters = new ArrayList<>();
        Integer posted;
        boolean locked;
        int[] collection;
        Set<Integer> tags = new TreeSet<>();
        Set<Integer> filed = new TreeSet<>();
        boolean waits;
        boolean screens;
        Set<Integer> kudos = new TreeSet<>();
    }

    static final class Tag {
        int kind;
        int main = -1;
        Set<Integer> parents = new TreeSet<>();
    }

    static final class Comment {
        int work;
        int face;
        int beneath;
        boolean frozen;
        boolean removed;
        boolean screened;
    }

    int day;
    final Set<List<Integer>> blocks = new HashSet<>();
    final List<int[]> told = new ArrayList<>();
    final List<Work> works = new ArrayList<>();
    final List<int[]> collections = new ArrayList<>();
    final List<Tag> tags = new ArrayList<>();
    final List<int[]> signs = new ArrayList<>();
    final List<Comment> comments = new ArrayList<>();
    final Map<List<Object>, Integer> subscriptions = new HashMap<>();
    final Set<List<Integer>> digested = new HashSet<>();
    String tape = "";

    private static void index(boolean good) {
        if (!good) {
            throw new Fault("IndexOutOfBoundsException");
        }
    }

    private static void argument(boolean good) {
        if (!good) {
            throw new Fault("IllegalArgumentException");
        }
    }

    private static void state(boolean good) {
        if (!good) {
            throw new Fault("IllegalStateException");
        }
    }

    private static boolean in(int n, int from, int to) {
        return n >= from && n <= to;
    }

    private static boolean person(int n) {
        return in(n, 0, 11);
    }

    private static boolean face(int n) {
        return in(n, 0, 31);
    }

    private boolean work(int n) {
        return in(n, 0, works.size() - 1);
    }

    private boolean tag(int n) {
        return in(n, 0, tags.size() - 1);
    }

    private static int bits(Set<Integer> set) {
        int all = 0;
        for (int each : set) {
            all |= 1 << each;
        }
        return all;
    }

    private static Set<Integer> numbers(int set) {
        Set<Integer> all = new TreeSet<>();
        for (int i = 0; i < 32; i++) {
            if ((set & 1 << i) != 0) {
                all.add(i);
            }
        }
        return all;
    }

    private boolean areSame(int face, int other) {
        Set<Integer> reached = new TreeSet<>();
        reached.add(face);
        for (int round = 0; round < told.size(); round++) {
            for (int[] pair : told) {
                if (reached.contains(pair[0]) || reached.contains(pair[1])) {
                    reached.add(pair[0]);
                    reached.add(pair[1]);
                }
            }
        }
        return reached.contains(other);
    }

    private boolean sees(int face, Work w) {
        if (w.owners.contains(face)) {
            return true;
        }
        if (w.posted == null) {
            return false;
        }
        if (w.collection != null && w.collection[0] > day) {
            return false;
        }
        return !w.locked || person(face);
    }

    private boolean told(int face, Work w) {
        return sees(face, w) && (w.owners.contains(face) || w.collection == null || w.collection[1] <= day);
    }

    private Set<Integer> above(int tag) {
        Set<Integer> all = new TreeSet<>();
        for (int each : tags.get(tag).parents) {
            all.add(each);
            all.addAll(above(each));
        }
        return all;
    }

    private int meaning(int tag) {
        Tag t = tags.get(tag);
        return t.kind == 0 ? -1 : t.kind == 1 ? tag : t.main;
    }

    private Set<Integer> belongs(Work w) {
        Set<Integer> all = new TreeSet<>();
        for (int each : w.tags) {
            if (meaning(each) >= 0) {
                all.add(meaning(each));
                all.addAll(above(meaning(each)));
            }
        }
        return all;
    }

    private void file(Work w) {
        w.filed = belongs(w);
        w.waits = false;
    }

    private void changed() {
        for (Work w : works) {
            if (!w.tags.isEmpty()) {
                w.waits = true;
            }
        }
    }

    private boolean reads(int face, Comment c) {
        Work w = works.get(c.work);
        return sees(face, w) && !c.removed && (!c.screened || c.face == face || w.owners.contains(face));
    }

    private int countKudos(Work w) {
        List<Integer> ones = new ArrayList<>();
        for (int each : w.kudos) {
            if (ones.stream().noneMatch(one -> areSame(one, each))) {
                ones.add(each);
            }
        }
        return ones.size();
    }

    private int latest(Work w) {
        int latest = -1;
        if (w.posted != null) {
            for (int each : w.chapters) {
                latest = Math.max(latest, Math.max(each, w.posted));
            }
        }
        return latest;
    }

    private Set<List<Integer>> news(int person) {
        Set<List<Integer>> all = new HashSet<>();
        for (int i = 0; i < works.size(); i++) {
            Work w = works.get(i);
            if (w.posted == null || !sees(person, w) || w.owners.contains(person)) {
                continue;
            }
            for (int c = 0; c < w.chapters.size(); c++) {
                int out = Math.max(w.chapters.get(c), w.posted);
                Integer from = subscriptions.get(List.of(person, false, i));
                boolean is = from != null && out >= from;
                if (told(person, w)) {
                    for (int owner : w.owners) {
                        from = subscriptions.get(List.of(person, true, owner));
                        is |= from != null && out >= from;
                    }
                }
                if (is && !digested.contains(List.of(person, i, c))) {
                    all.add(List.of(person, i, c));
                }
            }
        }
        return all;
    }

    // ---- searches: a query is read by its grammar; the place behind it, or -1

    private interface Sense {
        boolean of(int work);
    }

    private int place;
    private String text;
    private int asker;
    private boolean now;

    private Sense query() {
        Sense one = part();
        while (one != null && place < text.length() && text.charAt(place) == '|') {
            place++;
            Sense first = one;
            Sense next = part();
            one = next == null ? null : w -> first.of(w) || next.of(w);
        }
        return one;
    }

    private Sense part() {
        Sense one = item();
        while (one != null && place < text.length() && text.charAt(place) == '&') {
            place++;
            Sense first = one;
            Sense next = item();
            one = next == null ? null : w -> first.of(w) && next.of(w);
        }
        return one;
    }

    private Sense item() {
        String rest = text.substring(Math.min(place, text.length()));
        if (rest.startsWith("!")) {
            place++;
            Sense inner = item();
            return inner == null ? null : w -> !inner.of(w);
        }
        if (rest.startsWith("(")) {
            place++;
            Sense inner = query();
            if (inner == null || place >= text.length() || text.charAt(place) != ')') {
                return null;
            }
            place++;
            return inner;
        }
        if (rest.matches("(?s)t[0-2][0-9].*")) {
            place += 3;
            int tag = Integer.parseInt(rest.substring(1, 3));
            return w -> isOfTag(works.get(w), tag);
        }
        if (rest.matches("(?s)a(0[0-9]|1[01]).*")) {
            place += 3;
            int person = Integer.parseInt(rest.substring(1, 3));
            return w -> works.get(w).owners.contains(person) && told(asker, works.get(w));
        }
        if (rest.matches("(?s)r[0-3].*")) {
            place += 2;
            int rating = rest.charAt(1) - '0';
            return w -> works.get(w).rating <= rating;
        }
        return null;
    }

    private boolean isOfTag(Work w, int tag) {
        if (!tag(tag)) {
            return false;
        }
        if (tags.get(tag).kind == 0) {
            return w.tags.contains(tag);
        }
        return (now ? belongs(w) : w.filed).contains(meaning(tag));
    }

    private Sense read(String tape) {
        place = 0;
        text = tape;
        Sense all = query();
        return place == tape.length() ? all : null;
    }

    /** Tells whether it can be the beginning of a query, by trying what could follow. */
    private boolean begins(String tape) {
        for (String more : new String[] {"", "0", "00", "r0"}) {
            StringBuilder all = new StringBuilder(tape + more);
            for (int closed = 0; closed <= tape.length(); closed++) {
                if (read(all.toString()) != null) {
                    return true;
                }
                all.append(')');
            }
        }
        return false;
    }

    private int findFault() {
        if (read(tape) != null) {
            return -1;
        }
        for (int length = 1; length <= tape.length(); length++) {
            if (!begins(tape.substring(0, length))) {
                return length - 1;
            }
        }
        return tape.length();
    }

    private Set<Integer> found(int face, boolean byNow) {
        Sense all = read(tape);
        asker = face;
        now = byNow;
        Set<Integer> found = new TreeSet<>();
        for (int i = 0; i < works.size(); i++) {
            if (sees(face, works.get(i)) && all.of(i)) {
                found.add(i);
            }
        }
        return found;
    }

    // ---- gifts: all matches, the lowest one first

    private boolean suits(int giver, int receiver) {
        int[] g = signs.get(giver);
        int[] r = signs.get(receiver);
        if (giver == receiver || numbers(g[3]).contains(r[0]) || numbers(r[3]).contains(g[0])) {
            return false;
        }
        for (int wish : numbers(r[1])) {
            for (int offer : numbers(g[2])) {
                int w = meaning(wish);
                int o = meaning(offer);
                if (w >= 0 && o >= 0 && (w == o || above(o).contains(w))) {
                    return true;
                }
            }
        }
        return false;
    }

    private void allMatches(boolean[][] suits, List<Integer> sofar, int[] count, List<Integer> lowest) {
        if (sofar.size() == signs.size()) {
            if (count[0]++ == 0) {
                lowest.addAll(sofar);
            }
            return;
        }
        for (int r = 0; r < signs.size(); r++) {
            if (!sofar.contains(r) && suits[sofar.size()][r]) {
                sofar.add(r);
                allMatches(suits, sofar, count, lowest);
                sofar.remove(sofar.size() - 1);
            }
        }
    }

    private int matches(List<Integer> lowest) {
        boolean[][] suits = new boolean[signs.size()][signs.size()];
        for (int g = 0; g < signs.size(); g++) {
            for (int r = 0; r < signs.size(); r++) {
                suits[g][r] = suits(g, r);
            }
        }
        int[] count = new int[1];
        allMatches(suits, new ArrayList<>(), count, lowest);
        return count[0];
    }

    // ---- the calls

    String call(String name, long[] a) {
        try {
            return String.valueOf(answer(name, a));
        } catch (Fault e) {
            return e.getMessage();
        }
    }

    private static int of(boolean is) {
        return is ? 1 : 0;
    }

    private long answer(String name, long[] long0) {
        int[] v = new int[4];
        for (int i = 0; i < long0.length; i++) {
            v[i] = (int) long0[i];
        }
        int a = v[0];
        int b = v[1];
        int c = v[2];
        int d = v[3];
        switch (name) {
            case "pass":
                argument(in(a, 1, 100));
                state(day + a <= 2000);
                return day += a;
            case "block": {
                index(person(a) && person(b));
                argument(a != b);
                boolean was = blocks.contains(List.of(a, b));
                if (c != 0) {
                    blocks.add(List.of(a, b));
                } else {
                    blocks.remove(List.of(a, b));
                }
                return of(was);
            }
            case "same": {
                index(face(a) && face(b));
                boolean were = areSame(a, b);
                told.add(new int[] {a, b});
                return of(!were);
            }
            default:
                return "work join leave chapter post lock collection collect sees owners".contains(name)
                        ? answerOfWorks(name, a, b)
                        : "tag make merge parent ofTag put wave waiting under".contains(name)
                        ? answerOfTags(name, a, b, c)
                        : "type wipe fault search result sign match matches".contains(name)
                        ? answerOfSearches(name, long0.length > 0 ? long0[0] : 0, a, b, c, d)
                        : answerOfComments(name, a, b, c);
        }
    }

    private long answerOfWorks(String name, int a, int b) {
        switch (name) {
            case "work": {
                index(person(a));
                argument(in(b, 0, 3));
                state(works.size() < 20);
                Work w = new Work();
                w.owners.add(a);
                w.rating = b;
                works.add(w);
                return works.size() - 1;
            }
            case "join": {
                index(work(a) && person(b));
                Set<Integer> owners = works.get(a).owners;
                state(!owners.contains(b) && owners.size() != 3 && owners.size() != 0);
                owners.add(b);
                return owners.size();
            }
            case "leave": {
                index(work(a) && person(b));
                state(works.get(a).owners.remove(b));
                return works.get(a).owners.size();
            }
            case "chapter":
                index(work(a));
                state(works.get(a).chapters.size() < 8);
                works.get(a).chapters.add(day);
                return works.get(a).chapters.size() - 1;
            case "post":
                index(work(a));
                state(works.get(a).posted == null && !works.get(a).chapters.isEmpty());
                works.get(a).posted = day;
                return works.get(a).chapters.size();
            case "lock": {
                index(work(a));
                boolean was = works.get(a).locked;
                works.get(a).locked = b != 0;
                return of(was);
            }
            case "collection":
                argument(in(a, 0, 2000) && in(b, a, 2000));
                state(collections.size() < 6);
                collections.add(new int[] {a, b});
                return collections.size() - 1;
            case "collect":
                index(work(a) && in(b, 0, collections.size() - 1));
                state(works.get(a).collection == null);
                works.get(a).collection = collections.get(b);
                return 0;
            case "sees":
                index(face(a) && work(b));
                return of(sees(a, works.get(b)));
            case "owners":
                index(face(a) && work(b));
                return told(a, works.get(b)) ? bits(works.get(b).owners) : 0;
            default:
                throw new AssertionError(name);
        }
    }

    private long answerOfTags(String name, int a, int b, int c) {
        switch (name) {
            case "tag":
                state(tags.size() < 30);
                tags.add(new Tag());
                return tags.size() - 1;
            case "make": {
                index(tag(a));
                Tag t = tags.get(a);
                state(t.kind != 1);
                int was = t.kind;
                t.kind = 1;
                t.main = -1;
                changed();
                return was;
            }
            case "merge": {
                index(tag(a) && tag(b));
                argument(a != b);
                state(tags.get(b).kind == 1 && !above(a).contains(b) && !above(b).contains(a));
                int was = tags.get(a).kind;
                for (Tag each : tags) {
                    if (was == 1 && each.kind == 2 && each.main == a) {
                        each.main = b;
                    }
                    if (each.parents.remove(a)) {
                        each.parents.add(b);
                    }
                }
                tags.get(a).kind = 2;
                tags.get(a).main = b;
                tags.get(a).parents.clear();
                changed();
                return was;
            }
            case "parent": {
                index(tag(a) && tag(b));
                argument(a != b);
                state(tags.get(a).kind == 1 && tags.get(b).kind == 1);
                state(c == 0 || !above(b).contains(a));
                boolean was = tags.get(a).parents.contains(b);
                if (was != (c != 0)) {
                    if (c != 0) {
                        tags.get(a).parents.add(b);
                    } else {
                        tags.get(a).parents.remove(b);
                    }
                    changed();
                }
                return of(was);
            }
            case "ofTag":
                index(tag(a));
                argument(in(b, 0, 4));
                return b == 0 ? tags.get(a).kind : b == 1 ? meaning(a) : b == 2 ? bits(above(a))
                        : b == 3 ? works.stream().filter(w -> w.tags.contains(a)).count()
                        : works.stream().filter(w -> w.filed.contains(a)).count();
            case "put": {
                index(work(a) && tag(b));
                Work w = works.get(a);
                boolean had = w.tags.contains(b);
                if (c != 0) {
                    w.tags.add(b);
                } else {
                    w.tags.remove(b);
                }
                file(w);
                return of(had);
            }
            case "wave": {
                argument(in(a, 1, 20));
                int done = 0;
                for (Work w : works) {
                    if (w.waits && done < a) {
                        file(w);
                        done++;
                    }
                }
                return done;
            }
            case "waiting": {
                Set<Integer> all = new TreeSet<>();
                for (int i = 0; i < works.size(); i++) {
                    if (works.get(i).waits) {
                        all.add(i);
                    }
                }
                return bits(all);
            }
            case "under":
                index(work(a));
                return bits(b != 0 ? belongs(works.get(a)) : works.get(a).filed);
            default:
                throw new AssertionError(name);
        }
    }

    private long answerOfSearches(String name, long characters, int a, int b, int c, int d) {
        switch (name) {
            case "type": {
                argument(in(b, 1, 8));
                StringBuilder more = new StringBuilder();
                for (int i = 0; i < b; i++) {
                    int sign = (int) (characters / (1L << 8 * i) & 255);
                    if (characters < 0) {
                        sign = (int) (characters >> 8 * i & 255);
                    }
                    argument(sign != 0 && "tar0123456789&|!()".indexOf(sign) >= 0);
                    more.append((char) sign);
                }
                state(tape.length() + b <= 60);
                tape += more;
                return tape.length();
            }
            case "wipe": {
                int had = tape.length();
                tape = "";
                return had;
            }
            case "fault":
                return findFault();
            case "search":
                index(face(a));
                argument(read(tape) != null);
                return bits(found(a, b != 0));
            case "result": {
                index(face(a) && b >= 0);
                argument(read(tape) != null);
                List<Integer> order = new ArrayList<>(found(a, false));
                order.sort((one, other) -> Integer.compare(latest(works.get(other)), latest(works.get(one))));
                return b < order.size() ? order.get(b) : -1;
            }
            case "sign": {
                index(person(a));
                for (int each : numbers(b | c)) {
                    argument(tag(each));
                }
                for (int each : numbers(d)) {
                    argument(person(each));
                }
                state(signs.stream().noneMatch(s -> s[0] == a) && signs.size() < 8);
                signs.add(new int[] {a, b, c, d});
                return signs.size() - 1;
            }
            case "match": {
                index(in(a, 0, signs.size() - 1));
                List<Integer> lowest = new ArrayList<>();
                return matches(lowest) == 0 ? -1 : lowest.get(a);
            }
            case "matches":
                return matches(new ArrayList<>());
            default:
                throw new AssertionError(name);
        }
    }

    private long answerOfComments(String name, int a, int b, int c) {
        switch (name) {
            case "screen": {
                index(work(a));
                boolean was = works.get(a).screens;
                works.get(a).screens = b != 0;
                return of(was);
            }
            case "comment": {
                index(work(a) && face(b) && in(c, -1, comments.size() - 1));
                argument(c == -1 || comments.get(c).work == a);
                Work w = works.get(a);
                state(comments.size() < 60 && sees(b, w));
                for (int owner : w.owners) {
                    state(!blocks.contains(List.of(owner, b)));
                }
                if (c != -1) {
                    state(reads(b, comments.get(c)));
                    state(!blocks.contains(List.of(comments.get(c).face, b)));
                }
                for (int up = c; up != -1; up = comments.get(up).beneath) {
                    state(!comments.get(up).frozen);
                }
                Comment made = new Comment();
                made.work = a;
                made.face = b;
                made.beneath = c;
                made.screened = w.screens && !w.owners.contains(b);
                comments.add(made);
                return comments.size() - 1;
            }
            case "change": {
                index(in(a, 0, comments.size() - 1));
                argument(in(b, 0, 3));
                Comment it = comments.get(a);
                boolean changes = b == 0 ? !it.frozen : b == 1 ? it.frozen : b == 2 ? it.screened : !it.removed;
                it.frozen = b == 0 || b != 1 && it.frozen;
                it.screened = b != 2 && it.screened;
                it.removed = b == 3 || it.removed;
                return of(changes);
            }
            case "reads":
                index(work(a) && face(b));
                return comments.stream().filter(each -> each.work == a && reads(b, each)).count();
            case "kudos": {
                index(work(a) && face(b));
                Work w = works.get(a);
                state(sees(b, w) && !w.owners.contains(b));
                state(w.kudos.stream().noneMatch(each -> areSame(each, b)));
                w.kudos.add(b);
                return countKudos(w);
            }
            case "liked":
                index(work(a));
                return countKudos(works.get(a));
            case "subscribe":
                index(person(a) && (b != 0 ? person(c) : work(c)));
                return of(subscriptions.putIfAbsent(List.of(a, b != 0, c), day) == null);
            case "news": {
                index(person(a));
                Set<Integer> all = new TreeSet<>();
                news(a).forEach(each -> all.add(each.get(1)));
                return bits(all);
            }
            case "digest": {
                index(person(a));
                Set<List<Integer>> all = news(a);
                digested.addAll(all);
                return all.size();
            }
            default:
                throw new AssertionError(name);
        }
    }
}
