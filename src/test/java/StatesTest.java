import java.util.ArrayDeque;
import java.util.ArrayList;
import java.util.Arrays;
import java.util.HashSet;
import java.util.List;
import java.util.Set;

/**
 * Small worlds of some promises each. All states to which some moves can lead are gone through, and
 * the answers on the way and in each state are held beside those of the model. What ModelTest meets
 * by chance is met here for sure, as long as it needs no more than a small world.
 */
public final class StatesTest {
    /** More moves than any way to a new state needs in a world that has an end. */
    private static final int TO_THE_END = 100;

    private record Call(String name, long[] given, String text) {
        @Override
        public String toString() {
            return text;
        }
    }

    private final List<Call> setup;
    private final List<Call> moves;
    private final List<Call> questions;
    private final Set<String> seen = new HashSet<>();
    private boolean good = true;

    private StatesTest(List<Call> setup, List<Call> moves, List<Call> questions) {
        this.setup = setup;
        this.moves = moves;
        this.questions = questions;
    }

    public static void main(String[] args) {
        tags();
        works();
        results();
        gifts();
        comments();
        kudos();
        news();
        Check.end();
    }

    private static void tags() {
        new StatesTest(
                calls("tag", "tag", "tag", "work 0 0"),
                calls("make 0,1,2", "merge 0,1,2 0,1,2", "parent 0,1,2 0,1,2 0,1", "put 0 0,1,2 0,1", "wave 1"),
                calls("ofTag 0,1,2 0,1,2,3,4", "under 0 0,1", "waiting", query("t00"), "search 0 0,1", "wipe",
                        query("t01"), "search 0 0,1", "wipe", query("t02&!t00"), "search 0 0,1"))
                .goThrough("TAGS", TO_THE_END, 3000);
    }

    private static void works() {
        new StatesTest(
                calls("work 0 2", "collection 1 2", "collection 0 1"),
                calls("join 0 0,1", "leave 0 0,1", "chapter 0", "post 0", "lock 0 0,1", "collect 0 0,1", "pass 1"),
                calls("sees 0,1,2,20 0", "owners 0,1,2,20 0", query("a00"), "search 0,1,2,20 0", "wipe",
                        query("!a01"), "search 0,1,2,20 1"))
                .goThrough("WORKS", 7, 1000);
    }

    private static void results() {
        new StatesTest(
                calls("work 0 0", "work 1 3", "work 0 3", query("r3")),
                calls("chapter 0,1,2", "post 0,1,2", "pass 1"),
                calls("result 0,1,2 0,1,2,3"))
                .goThrough("results", 7, 1000);
    }

    private static void gifts() {
        new StatesTest(
                calls("tag", "tag", "make 0", "make 1"),
                calls("sign 0,1,2 1,2 1,3 0,1,4", "parent 1 0 0,1"),
                calls("matches", "match 0,1,2,3"))
                .goThrough("gifts", 3, 1000);
    }

    private static void comments() {
        new StatesTest(
                calls("work 0 0", "chapter 0", "post 0"),
                calls("join 0 1", "leave 0 0", "block 0,2 1 0,1", "screen 0 0,1", "lock 0 0,1",
                        "comment 0 0,1,2,20 -1,0,1", "change 0,1 0,1,2,3"),
                calls("reads 0 0,1,2,20"))
                .goThrough("comments", 4, 1000);
    }

    private static void kudos() {
        new StatesTest(
                calls("work 0 0", "chapter 0", "post 0"),
                calls("kudos 0 0,1,2,20,21", "same 1 2,20", "same 20 21", "same 2 21", "join 0 1", "leave 0 0,1",
                        "lock 0 0,1"),
                calls("liked 0"))
                .goThrough("kudos", TO_THE_END, 1000);
    }

    private static void news() {
        new StatesTest(
                calls("work 0 0", "chapter 0", "collection 0 2"),
                calls("pass 1", "chapter 0", "post 0", "subscribe 1 0 0", "subscribe 1 1 0,2", "join 0 1,2",
                        "leave 0 0,1", "collect 0 0", "digest 1"),
                calls("news 0,1,2", "digest 0,1,2", "news 1"))
                .goThrough("news", 6, 1000);
    }

    // ---- calls are told as a name and numbers; where more than one number stands, all are meant

    private static List<Call> calls(String... patterns) {
        List<Call> all = new ArrayList<>();
        for (String pattern : patterns) {
            List<String> some = List.of("");
            for (String word : pattern.split(" ")) {
                List<String> longer = new ArrayList<>();
                for (String begun : some) {
                    for (String each : word.split(",")) {
                        longer.add(begun.isEmpty() ? each : begun + " " + each);
                    }
                }
                some = longer;
            }
            some.forEach(each -> all.add(callOf(each)));
        }
        return all;
    }

    private static Call callOf(String text) {
        String[] words = text.split(" ");
        long[] given = new long[words.length - 1];
        for (int i = 1; i < words.length; i++) {
            given[i - 1] = Long.parseLong(words[i]);
        }
        return new Call(words[0], given, text);
    }

    private static String query(String text) {
        return "type " + Check.packed(text) + " " + text.length();
    }

    // ---- all states

    private void goThrough(String about, int mostMoves, int leastStates) {
        ArrayDeque<List<Call>> open = new ArrayDeque<>();
        open.add(setup);
        Check.about(about + ": ");
        while (good && !open.isEmpty()) {
            List<Call> way = open.remove();
            for (int i = 0; i < moves.size() && good; i++) {
                List<Call> longer = new ArrayList<>(way);
                longer.add(moves.get(i));
                if (leadsToNewState(longer) && longer.size() - setup.size() < mostMoves) {
                    open.add(longer);
                }
            }
        }
        Check.note(!good || seen.size() >= leastStates, "there are only " + seen.size() + " states");
        Check.about("");
        System.out.println("  " + about + ": " + seen.size() + " states");
    }

    /** Of a way only its last call is looked at: those ahead of it were so when the way was shorter. */
    private boolean leadsToNewState(List<Call> way) {
        Tagwranglery x = new Tagwranglery();
        Model model = new Model();
        for (Call each : way.subList(0, way.size() - 1)) {
            Caller.answer(x, each.name, each.given);
            model.call(each.name, each.given);
        }
        look(x, model, way.get(way.size() - 1), way);
        boolean isNew = seen.add(stateOf(model));
        for (int i = 0; i < questions.size() && isNew; i++) {
            look(x, model, questions.get(i), way);
        }
        return isNew;
    }

    private void look(Tagwranglery x, Model model, Call call, List<Call> way) {
        String due = model.call(call.name, call.given);
        String answer = Caller.answer(x, call.name, call.given);
        boolean is = due.equals(answer);
        Check.note(is, is ? "" : call + " answered " + answer + ", due is " + due + ", after " + way);
        good &= is;
    }

    /** All that the model holds, but for the tape, which no move changes. */
    private static String stateOf(Model model) {
        StringBuilder all = new StringBuilder().append(model.day).append(model.blocks).append(model.subscriptions)
                .append(model.digested);
        Set<String> told = new HashSet<>();
        model.told.forEach(each -> told.add(Arrays.toString(each)));
        all.append(told);
        model.signs.forEach(each -> all.append(Arrays.toString(each)));
        model.collections.forEach(each -> all.append(Arrays.toString(each)));
        for (Model.Work each : model.works) {
            all.append(each.owners).append(each.chapters).append(each.posted).append(each.locked)
                    .append(each.collection == null ? "" : Arrays.toString(each.collection)).append(each.tags)
                    .append(each.filed).append(each.waits).append(each.screens).append(each.kudos);
        }
        for (Model.Tag each : model.tags) {
            all.append(each.kind).append(each.main).append(each.parents);
        }
        for (Model.Comment each : model.comments) {
            all.append(each.face).append(each.beneath).append(each.frozen).append(each.removed).append(each.screened);
        }
        return all.toString();
    }
}
