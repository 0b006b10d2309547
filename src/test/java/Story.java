import java.util.ArrayList;
import java.util.LinkedHashSet;
import java.util.List;
import java.util.Set;
import java.util.function.Supplier;

/**
 * What an object answers from here on. Two objects that tell all the same stories hold the same:
 * so a call can be caught that should have changed nothing. A story goes on with its object, so
 * each needs one of its own.
 */
final class Story {
    /** An object is used for 512 calls, and its scene needs some of them. */
    private static final int MOST_ANSWERS = 400;

    private final BasketryOffice office;
    private final List<String> answers = new ArrayList<>();

    private Story(BasketryOffice office) {
        this.office = office;
    }

    static List<String> ofAll(Supplier<BasketryOffice> maker) {
        List<String> all = new ArrayList<>();
        all.addAll(new Story(maker.get()).asked());
        all.addAll(new Story(maker.get()).quoted());
        all.addAll(new Story(maker.get()).confirmedAndLinked());
        all.addAll(new Story(maker.get()).spent());
        return all;
    }

    /** Just the questions: they change nothing, so an object may be asked again. */
    static List<String> ofQuestions(BasketryOffice office) {
        return new Story(office).asked();
    }

    private List<String> asked() {
        ask();
        return told();
    }

    private List<String> quoted() {
        quoteAll(150);
        note("publish", office::publish);
        quoteAll(180);
        note("publish", office::publish);
        ask();
        return told();
    }

    private List<String> confirmedAndLinked() {
        for (int item : items()) {
            for (int outlet = 0; outlet < 4; outlet++) {
                int at = outlet;
                note("confirm", () -> office.confirm(item, at));
                note("link", () -> {
                    office.link(item, at, 170 + at, 100);
                    return "told";
                });
            }
        }
        note("publish", office::publish);
        quoteAll(190);
        note("publish", office::publish);
        askOfContracts();
        askOfMonths();
        return told();
    }

    private List<String> spent() {
        note("adopt", office::adopt);
        for (int household = 0; household < 3; household++) {
            for (int group = 0; group < 4; group++) {
                int who = household;
                int what = group;
                note("spend", () -> office.spend(who, what, 1));
            }
        }
        note("item", () -> office.item(2, 2, 7));
        note("contract", () -> office.contract(7, 1, 10, true));
        for (int month : months()) {
            for (int item : items()) {
                for (int outlet = 0; outlet < 4; outlet++) {
                    int at = outlet;
                    note("fix", () -> office.fix(month, item, at, 77));
                }
            }
        }
        note("publish", office::publish);
        ask();
        return told();
    }

    private void quoteAll(int cents) {
        for (int item : items()) {
            for (int outlet = 0; outlet < 4; outlet++) {
                int at = outlet;
                note("quote", () -> office.quote(item, at, cents + item + at, 100));
            }
        }
    }

    private void ask() {
        for (int what = 0; what < 5; what++) {
            int asked = what;
            note("count", () -> office.count(asked));
        }
        askOfItems();
        askOfMonths();
        askOfContracts();
    }

    private void askOfItems() {
        for (int month : months()) {
            for (int item : items()) {
                for (int outlet = 0; outlet < 4; outlet++) {
                    int at = outlet;
                    note("price", () -> office.price(item, at, month));
                    note("isMatched", () -> office.isMatched(item, at, month));
                }
                note("relative", () -> office.relative(item, month));
                note("bounce", () -> office.bounce(item, month));
            }
        }
    }

    private void askOfMonths() {
        for (int month : months()) {
            for (int kind = 0; kind < 5; kind++) {
                int of = kind;
                note("index", () -> office.index(of, month));
                note("indexAnew", () -> office.indexAnew(of, month));
                note("corrected", () -> office.corrected(of, month));
                for (int group = 0; group < 3; group++) {
                    int on = group;
                    note("share", () -> office.share(of, on, month));
                }
            }
            for (int group = 0; group < 4; group++) {
                int of = group;
                note("ofGroup", () -> office.ofGroup(of, month));
            }
            note("published", () -> office.published(month));
            note("growth", () -> office.growth(month));
            note("core", () -> office.core(month));
            note("direct", () -> office.direct(month));
            note("doubts", () -> office.doubts(month));
        }
    }

    private void askOfContracts() {
        int beyond = office.count(3);
        for (int contract = 0; contract <= beyond; contract++) {
            int of = contract;
            for (int what = 0; what < 4; what++) {
                int asked = what;
                note("ofContract", () -> office.ofContract(of, asked));
            }
            note("owed", () -> office.owed(of));
        }
    }

    /** The first two and the last: what slips to a neighbour's place shows. */
    private Set<Integer> items() {
        return someOf(0, 1, office.count(0) - 1);
    }

    private Set<Integer> months() {
        return someOf(0, office.count(1) - 2, office.count(1) - 1);
    }

    private static Set<Integer> someOf(int... numbers) {
        Set<Integer> some = new LinkedHashSet<>();
        for (int number : numbers) {
            some.add(Math.max(0, number));
        }
        return some;
    }

    private void note(String name, Supplier<Object> call) {
        answers.add(name + " " + Check.answer(call));
    }

    private List<String> told() {
        if (answers.size() > MOST_ANSWERS) {
            throw new IllegalStateException("a story of " + answers.size() + " answers is too long");
        }
        return answers;
    }
}
