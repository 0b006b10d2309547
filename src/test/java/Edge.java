import java.util.ArrayList;
import java.util.EnumMap;
import java.util.List;
import java.util.Map;
import java.util.TreeMap;
import java.util.function.BiConsumer;
import java.util.function.Consumer;

/**
 * One sentence of the document that names an edge, quoted with the number of its promise (or
 * Doc.TERMS), and what is due there. What it quotes must stand in the document.
 */
final class Edge {
    static final Class<IndexOutOfBoundsException> PLACE = IndexOutOfBoundsException.class;
    static final Class<IllegalArgumentException> ARGUMENT = IllegalArgumentException.class;
    static final Class<IllegalStateException> STATE = IllegalStateException.class;

    private static final Check CHECK = new Check();
    private static final Doc DOC = new Doc();
    private static final Map<Integer, List<String>> QUOTED = new TreeMap<>();
    private static final Map<Scene, List<String>> UNTOUCHED = new EnumMap<>(Scene.class);

    private final String name;

    Edge(int promise, String sentence) {
        name = (promise == Doc.TERMS ? "Terms" : "promise " + promise) + ", '" + sentence + "': ";
        CHECK.due(name + "stands in the document", DOC.tells(promise, sentence), true);
        QUOTED.computeIfAbsent(promise, made -> new ArrayList<>()).add(sentence);
    }

    void due(String what, Object got, Object want) {
        CHECK.due(name + what, got, want);
    }

    /** The call answers, whatever it answers. */
    void lets(Scene scene, String what, Consumer<BasketryOffice> call) {
        BasketryOffice office = scene.make();
        due(what + " in " + scene, Check.outcome(() -> call.accept(office)), "nothing thrown");
    }

    /** The call throws what is due, and the object goes on as one without the call. */
    void refuses(Scene scene, Class<? extends RuntimeException> want, String what, Consumer<BasketryOffice> call) {
        String where = what + " in " + scene;
        List<String> touched = Story.ofAll(() -> {
            BasketryOffice office = scene.make();
            CHECK.dueThrow(name + where, want, () -> call.accept(office));
            return office;
        });
        changesNothing(where, touched, untouched(scene));
    }

    /** The call is let, and the object goes on as one without the call. */
    void leaves(Scene scene, String what, Consumer<BasketryOffice> call) {
        String where = what + " in " + scene;
        List<String> touched = Story.ofAll(() -> {
            BasketryOffice office = scene.make();
            due(where, Check.outcome(() -> call.accept(office)), "nothing thrown");
            return office;
        });
        changesNothing(where, touched, untouched(scene));
    }

    private static List<String> untouched(Scene scene) {
        return UNTOUCHED.computeIfAbsent(scene, of -> Story.ofAll(of::make));
    }

    /** Tells the first answer that is another one: a story is too long to be told whole. */
    private void changesNothing(String where, List<String> touched, List<String> untouched) {
        int at = 0;
        while (at < touched.size() && at < untouched.size() && touched.get(at).equals(untouched.get(at))) {
            at++;
        }
        due(where + ", changes nothing, answer " + at + " after it", answerAt(touched, at), answerAt(untouched, at));
    }

    private static String answerAt(List<String> story, int at) {
        return at < story.size() ? story.get(at) : "no more";
    }

    /** The least and the greatest are let; one less, one more and the farthest are refused. */
    void range(Scene scene, int least, int greatest, Class<? extends RuntimeException> refusal,
            BiConsumer<BasketryOffice, Integer> call) {
        for (int number : new int[] {least, greatest}) {
            lets(scene, "" + number, x -> call.accept(x, number));
        }
        none(scene, least, greatest, refusal, call);
    }

    /** One less than the least, one more than the greatest, and the farthest are refused. */
    void none(Scene scene, int least, int greatest, Class<? extends RuntimeException> refusal,
            BiConsumer<BasketryOffice, Integer> call) {
        for (int number : new int[] {least - 1, greatest + 1, Integer.MIN_VALUE, Integer.MAX_VALUE}) {
            refuses(scene, refusal, "" + number, x -> call.accept(x, number));
        }
    }

    /** To be called last: every sentence of the document must have been quoted by then. */
    static void end(String test) {
        for (int section : DOC.sections()) {
            List<String> quoted = QUOTED.getOrDefault(section, List.of());
            CHECK.due("sentences of " + section + " without a test", DOC.without(section, quoted), List.of());
        }
        CHECK.end(test);
    }
}
