import java.util.function.Consumer;

/** A call that is refused changes nothing: what is asked and told after it answers as without it. */
public final class RefusalTest {
    private static final Check CHECK = new Check();
    private static final String PLACE = "IndexOutOfBoundsException";
    private static final String ARGUMENT = "IllegalArgumentException";
    private static final String STATE = "IllegalStateException";

    private RefusalTest() { }

    public static void main(String[] args) {
        refusedItems();
        refusedQuotesAndLinks();
        refusedSpendings();
        refusedFixes();
        refusedContracts();
        refusedWhenAllIsPublished();
        refusedQuestions();
        CHECK.end("RefusalTest");
    }

    /** Two items, one out of season now, a published month, a contract, and quotes of now. */
    private static BasketryOffice scene() {
        BasketryOffice x = new BasketryOffice();
        x.item(0, BasketryOffice.CARLI, 4095);
        x.item(1, BasketryOffice.DUTOT, 1);
        x.spend(0, 0, 30);
        x.spend(1, 1, 10);
        x.adopt();
        x.spend(0, 0, 20);
        x.quote(0, 0, 100, 100);
        x.quote(1, 0, 100, 100);
        x.publish();
        x.contract(1000, 0, 0, false);
        x.quote(0, 0, 120, 100);
        x.link(0, 0, 130, 100);
        x.fix(0, 1, 0, 90);
        return x;
    }

    private static BasketryOffice fullScene() {
        BasketryOffice x = scene();
        while (x.count(1) < 24) {
            x.publish();
        }
        while (x.count(3) < 10) {
            x.contract(1, 0, 0, true);
        }
        while (x.count(0) < 12) {
            x.item(0, 0, 1);
        }
        return x;
    }

    /** What the call answers on the scene, with a look that all goes on as without it. */
    private static void refuse(String what, String want, Consumer<BasketryOffice> call) {
        refuseIn(false, what, want, call);
    }

    private static void refuseIn(boolean isFull, String what, String want, Consumer<BasketryOffice> call) {
        BasketryOffice untouched = isFull ? fullScene() : scene();
        BasketryOffice touched = isFull ? fullScene() : scene();
        CHECK.due(what, Check.outcome(() -> call.accept(touched)), want);
        CHECK.due(what + ": what stands then", story(touched), story(untouched));
    }

    private static String story(BasketryOffice x) {
        StringBuilder text = new StringBuilder();
        look(x, text);
        text.append(told(() -> x.confirm(0, 0)));
        text.append(told(() -> x.quote(0, 1, 150, 100)));
        text.append(told(() -> x.link(0, 1, 100, 100)));
        text.append(told(() -> x.item(2, 2, 7)));
        text.append(told(() -> x.contract(7, 1, 10, true)));
        text.append(x.adopt()).append(told(x::publish));
        text.append(told(() -> x.quote(0, 0, 140, 100))).append(told(x::publish));
        look(x, text);
        return text.toString();
    }

    private static String told(Runnable call) {
        return " " + Check.outcome(call);
    }

    private static void look(BasketryOffice x, StringBuilder text) {
        int last = x.count(1) - 1;
        for (int what = 0; what < 5; what++) {
            text.append(' ').append(x.count(what));
        }
        for (int item = 0; item < 2; item++) {
            for (int outlet = 0; outlet < 4; outlet++) {
                text.append(' ').append(x.price(item, outlet, last)).append(x.isMatched(item, outlet, last));
            }
            text.append(' ').append(x.relative(item, last)).append(' ').append(x.bounce(item, last));
        }
        for (int kind = 0; kind < 5; kind++) {
            text.append(' ').append(x.index(kind, last)).append(' ').append(x.indexAnew(kind, last));
            text.append(' ').append(x.corrected(kind, last)).append(' ').append(x.share(kind, 0, last));
        }
        text.append(' ').append(x.published(last)).append(' ').append(x.core(last));
        text.append(' ').append(x.direct(last)).append(' ').append(x.doubts(last));
        for (int what = 0; what < 4; what++) {
            text.append(' ').append(x.ofContract(0, what));
        }
        text.append(' ').append(x.owed(0));
    }

    private static void refusedItems() {
        refuse("item of no group", PLACE, x -> x.item(4, 0, 1));
        refuse("item of no mean", ARGUMENT, x -> x.item(0, 3, 1));
        refuse("item of no season", ARGUMENT, x -> x.item(0, 0, 0));
        refuse("item of a thirteenth month", ARGUMENT, x -> x.item(0, 0, 4096));
    }

    private static void refusedQuotesAndLinks() {
        refuse("quote of no item", PLACE, x -> x.quote(2, 0, 1, 1));
        refuse("quote at no outlet", PLACE, x -> x.quote(0, 4, 1, 1));
        refuse("quote at the outlet -1 of the second item", PLACE, x -> x.quote(1, -1, 1, 1));
        refuse("quote of no cents", ARGUMENT, x -> x.quote(0, 1, 0, 1));
        refuse("quote of no grams", ARGUMENT, x -> x.quote(0, 1, 1, 0));
        refuse("quote out of season", STATE, x -> x.quote(1, 0, 1, 1));
        refuse("quote told again", STATE, x -> x.quote(0, 0, 110, 100));
        refuse("confirm of no item", PLACE, x -> x.confirm(2, 0));
        refuse("confirm at no outlet", PLACE, x -> x.confirm(0, -1));
        refuse("confirm without a quote", STATE, x -> x.confirm(0, 1));
        refuse("link of no item", PLACE, x -> x.link(-1, 0, 1, 1));
        refuse("link at no outlet", PLACE, x -> x.link(0, 4, 1, 1));
        refuse("link of too many cents", ARGUMENT, x -> x.link(0, 1, 100001, 1));
        refuse("link of too many grams", ARGUMENT, x -> x.link(0, 1, 1, 10001));
        refuse("link told again", STATE, x -> x.link(0, 0, 260, 100));
    }

    private static void refusedSpendings() {
        refuse("spend of no household", PLACE, x -> x.spend(3, 0, 9));
        refuse("spend on no group", PLACE, x -> x.spend(0, 4, 9));
        refuse("spend on the group -1", PLACE, x -> x.spend(1, -1, 9));
        refuse("spend of less than nothing", ARGUMENT, x -> x.spend(0, 0, -1));
        refuse("spend of too much", ARGUMENT, x -> x.spend(0, 0, 1000000001));
    }

    private static void refusedFixes() {
        refuse("fix of now", PLACE, x -> x.fix(1, 0, 0, 50));
        refuse("fix of the month -1", PLACE, x -> x.fix(-1, 0, 0, 50));
        refuse("fix of no item", PLACE, x -> x.fix(0, 2, 0, 50));
        refuse("fix at no outlet", PLACE, x -> x.fix(0, 0, 4, 50));
        refuse("fix of no cents", ARGUMENT, x -> x.fix(0, 0, 0, 0));
        refuse("fix of too many cents", ARGUMENT, x -> x.fix(0, 1, 0, 100001));
        refuse("fix without a quote", STATE, x -> x.fix(0, 0, 1, 50));
    }

    private static void refusedContracts() {
        refuse("contract of no wage", ARGUMENT, x -> x.contract(0, 0, 0, true));
        refuse("contract of a far lag", ARGUMENT, x -> x.contract(1, 4, 0, true));
        refuse("contract of a far trigger", ARGUMENT, x -> x.contract(1, 0, 501, true));
        BasketryOffice unpublished = new BasketryOffice();
        CHECK.due("contract ahead of all", Check.outcome(() -> unpublished.contract(1, 0, 0, true)), STATE);
        CHECK.due("contract ahead of all: none then", unpublished.count(3), 0);
    }

    private static void refusedWhenAllIsPublished() {
        refuseIn(true, "a 13th item", STATE, x -> x.item(0, 0, 1));
        refuseIn(true, "quote after 24 months", STATE, x -> x.quote(0, 1, 1, 1));
        refuseIn(true, "confirm after 24 months", STATE, x -> x.confirm(0, 0));
        refuseIn(true, "link after 24 months", STATE, x -> x.link(0, 1, 1, 1));
        refuseIn(true, "a 25th publishing", STATE, BasketryOffice::publish);
        refuseIn(true, "an 11th contract", STATE, x -> x.contract(1, 0, 0, true));
        refuseIn(true, "fix of the month 24", PLACE, x -> x.fix(24, 0, 0, 1));
    }

    private static void refusedQuestions() {
        refuse("price of now", PLACE, x -> x.price(0, 0, 1));
        refuse("isMatched of now", PLACE, x -> x.isMatched(0, 0, 1));
        refuse("relative of no item", PLACE, x -> x.relative(2, 0));
        refuse("bounce of no item", PLACE, x -> x.bounce(-1, 0));
        refuse("ofGroup of no group", PLACE, x -> x.ofGroup(4, 0));
        refuse("share of no kind", PLACE, x -> x.share(5, 0, 0));
        refuse("index of no kind", PLACE, x -> x.index(-1, 0));
        refuse("indexAnew of now", PLACE, x -> x.indexAnew(0, 1));
        refuse("corrected of now", PLACE, x -> x.corrected(0, 1));
        refuse("published of now", PLACE, x -> x.published(1));
        refuse("growth of an early month", PLACE, x -> x.growth(0));
        refuse("core of now", PLACE, x -> x.core(1));
        refuse("direct of now", PLACE, x -> x.direct(1));
        refuse("doubts of now", PLACE, x -> x.doubts(1));
        refuse("ofContract of no contract", PLACE, x -> x.ofContract(1, 0));
        refuse("ofContract of no such thing", PLACE, x -> x.ofContract(0, 4));
        refuse("owed by no contract", PLACE, x -> x.owed(1));
        refuse("count of no such thing", PLACE, x -> x.count(5));
    }
}
