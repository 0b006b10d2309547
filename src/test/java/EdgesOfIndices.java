import java.util.Arrays;
import java.util.List;

/** The edges that the Terms name, from the spendings and shares to the contracts. */
final class EdgesOfIndices {
    private static final int ALWAYS = 4095;

    private EdgesOfIndices() { }

    static void all() {
        spendings();
        sharesOfMonths();
        sharesOfKinds();
        nothingSpent();
        indices();
        steps();
        numbers();
        core();
        direct();
        fixes();
        fixesAllElseAsItWas();
        fixesChangeNothingElse();
        contracts();
        contractsLag();
        contractsRise();
        contractsFall();
        contractsFarNumbers();
        contractsWage();
        contractsPay();
        contractsByContract();
    }

    private static Edge edge(String sentence) {
        return new Edge(Doc.TERMS, sentence);
    }

    /** All is spent on the group 0, with one item: the index goes as its price. 1000 cents are published. */
    private static BasketryOffice followed() {
        BasketryOffice x = new BasketryOffice();
        x.item(0, BasketryOffice.CARLI, ALWAYS);
        x.spend(0, 0, 1);
        x.adopt();
        publish(x, 1000);
        return x;
    }

    private static int publish(BasketryOffice x, int cents) {
        x.quote(0, 0, cents, 100);
        return x.publish();
    }

    /** One gram for these cents, and before it one gram for the base's, time after time. */
    private static BasketryOffice moved(int... centsAndBases) {
        BasketryOffice x = followed();
        for (int at = 0; at < centsAndBases.length; at += 2) {
            x.link(0, 0, centsAndBases[at + 1], 1);
            x.publish();
            x.quote(0, 0, centsAndBases[at], 1);
            x.confirm(0, 0);
        }
        return x;
    }

    // ---- shares

    private static void spendings() {
        Edge edge = edge("Spendings of HOUSEHOLDS on GROUPS are told in cents, 0 at first.");
        BasketryOffice x = new BasketryOffice();
        edge.due("all of them", x.adopt(), 0L);
        for (int place = 0; place < 12; place++) {
            edge.due("each of them", x.spend(place % 3, place / 3, 0), 0);
        }
        edge.due("told to be 0", x.adopt(), 0L);
    }

    private static void sharesOfMonths() {
        Edge edge = edge("They are adopted when that is told, all as they are then; at first all adopted ones are 0.");
        BasketryOffice x = new BasketryOffice();
        x.spend(0, 0, 1000000000);
        x.publish();
        x.adopt();
        x.spend(0, 1, 1000000000);
        x.publish();
        x.adopt();
        x.adopt();
        x.publish();
        edge.due("told, not adopted", x.share(0, 0, 0), 0.25);
        edge.due("adopted", x.share(0, 0, 1), 1.0);
        edge.due("adopted with what was told since", x.share(0, 0, 2), 0.5);
        Edge month = edge("The shares of a month are by what is adopted as it is published.");
        x.spend(0, 0, 0);
        x.adopt();
        x.spend(0, 1, 0);
        x.spend(0, 2, 1);
        x.adopt();
        x.publish();
        x.spend(0, 2, 0);
        x.adopt();
        month.due("the latest that is adopted", x.share(0, 2, 3), 1.0);
        month.due("the month before", x.share(0, 0, 2), 0.5);
        month.due("the month 0", x.share(0, 2, 0), 0.25);
    }

    private static void sharesOfKinds() {
        Edge edge = edge(
                "The share of a GROUP is, for the kind 0, what all HOUSEHOLDS spend on it, divided by all that they spend");
        BasketryOffice x = new BasketryOffice();
        int[][] spent = {{1, 2, 3, 4}, {0, 0, 0, 0}, {1000000000, 1, 0, 999999999}};
        for (int place = 0; place < 12; place++) {
            x.spend(place % 3, place / 3, spent[place % 3][place / 3]);
        }
        x.adopt();
        x.publish();
        Edge household = edge(
                "for the kind 2, 3 or 4 what the HOUSEHOLD 0, 1 or 2 spends on it, divided by all that it spends");
        Edge mean = edge(
                "for the kind 1 the sum, over the HOUSEHOLDS that spend something, of the share for each of them, "
                + "divided by how many these are");
        for (int group = 0; group < 4; group++) {
            double first = spent[0][group] / 10.0;
            double last = spent[2][group] / 2000000000.0;
            double all = (spent[0][group] + spent[2][group]) / 2000000010.0;
            edge.due("the group " + group, x.share(0, group, 0), all);
            household.due("the household 0, group " + group, x.share(2, group, 0), first);
            household.due("the household 1, group " + group, x.share(3, group, 0), 0.25);
            household.due("the household 2, group " + group, x.share(4, group, 0), last);
            mean.due("two that spend something, group " + group, x.share(1, group, 0), (0.0 + first + last) / 2.0);
        }
        BasketryOffice three = new BasketryOffice();
        for (int place = 0; place < 3; place++) {
            three.spend(place, 0, place + 1);
            three.spend(place, 3, 9 - place);
        }
        three.adopt();
        three.publish();
        mean.due("three that do, by rising numbers", three.share(1, 0, 0), (0.0 + 0.1 + 0.2 + 0.3) / 3.0);
    }

    private static void nothingSpent() {
        Edge edge = edge(
                "Where nothing is spent at all (for the kinds 2 to 4 by that HOUSEHOLD, otherwise by all), it is 0.25.");
        for (int who = -1; who < 3; who++) {
            BasketryOffice x = new BasketryOffice();
            if (who >= 0) {
                x.spend(who, 3, 1);
            }
            x.adopt();
            x.publish();
            for (int kind = 0; kind < 5; kind++) {
                boolean isNothing = who < 0 || kind >= 2 && kind != who + 2;
                String what = (who < 0 ? "nobody spends" : "one cent by " + who) + ", kind " + kind;
                edge.due(what, x.share(kind, 3, 0), isNothing ? 0.25 : 1.0);
                edge.due(what + ", another group", x.share(kind, 0, 0), isNothing ? 0.25 : 0.0);
            }
        }
    }

    // ---- indices and numbers

    private static void indices() {
        Edge kinds = edge("There are indices of the kinds 0 to 4.");
        Edge first = edge("The index of the month 0 is 100.0.");
        BasketryOffice x = Scene.FULL.make();
        BasketryOffice bare = new BasketryOffice();
        bare.publish();
        for (int kind = 0; kind < 5; kind++) {
            first.due("with quotes, kind " + kind, x.index(kind, 0), 100.0);
            first.due("with nothing told, kind " + kind, bare.index(kind, 0), 100.0);
            kinds.due("by its own shares, kind " + kind, x.index(kind, 1) == x.index((kind + 1) % 5, 1), false);
        }
    }

    private static void steps() {
        Edge edge = edge(
                "the sum, over the GROUPS, of the share times the RELATIVE; the index is that of the month before times the step");
        BasketryOffice x = new BasketryOffice();
        int[] spent = {1, 2, 3, 4};
        for (int group = 0; group < 4; group++) {
            x.item(group, BasketryOffice.CARLI, ALWAYS);
            x.quote(group, 0, 100, 100);
            x.spend(1, group, spent[group]);
        }
        x.adopt();
        x.publish();
        double index = 100.0;
        double[] relatives = {1.0, 1.0, 1.0, 1.0};
        for (int month = 1; month < 24; month++) {
            double step = 0.0;
            for (int group = 0; group < 4; group++) {
                int before = 100 + (month - 1) * (group + 1);
                x.quote(group, 0, before + group + 1, 100);
                relatives[group] = ((before + group + 1.0) / 100.0) / (before / 100.0);
                step += spent[group] / 10.0 * relatives[group];
            }
            x.publish();
            index = index * step;
            edge.due("the month " + month, x.index(0, month), index);
            edge.due("the month " + month + ", of nothing spent", x.index(2, month) == x.index(4, month), true);
        }
    }

    private static void numbers() {
        Edge edge = edge("is the index of the kind 0 times 10.0, and 0.5, together, rounded down, "
                + "but 1 at least and 2147483647 at most; it stays for ever");
        edge.due("rounded down from 1000.9", publish(followed(), 1000), 1000);
        BasketryOffice half = followed();
        publish(half, 2000);
        edge.due("2000 and a half", publish(half, 2000), 2000);
        edge.due("2000.4 and 0.5", moved(20004, 10000).publish(), 2000);
        edge.due("2000.5 and 0.5", moved(20005, 10000).publish(), 2001);
        edge.due("1.48 and 0.5", moved(1, 25, 37, 1000).publish(), 1);
        edge.due("1.5 and 0.5", moved(1, 25, 3, 80).publish(), 2);
        edge.due("0.4 and 0.5: 1 at least", moved(1, 25, 1, 25, 1, 4).publish(), 1);
        edge.due("0.04 and 0.5: 1 at least", moved(1, 30, 1, 30, 1, 30).publish(), 1);
        edge.due("one less than the greatest", moved(30, 1, 30, 1, 30, 1, 1053, 101, 10154, 1331).publish(), 2147483646);
        edge.due("just the greatest", moved(30, 1, 30, 1, 30, 1, 1340, 133, 12023, 1523).publish(), 2147483647);
        edge.due("one more", moved(30, 1, 30, 1, 30, 1, 1292, 129, 9069, 1142).publish(), 2147483647);
        int[] steep = new int[44];
        for (int at = 0; at < steep.length; at++) {
            steep[at] = at % 2 == 0 ? 30 : 1;
        }
        BasketryOffice x = moved(steep);
        int last = x.publish();
        edge.due("22 times 30: the greatest", last, 2147483647);
        edge.due("the index goes beyond it", x.index(0, 23) > 1e33, true);
        x.fix(2, 0, 0, 1);
        x.fix(23, 0, 0, 1);
        edge.due("it stays", x.published(23), 2147483647);
        edge.due("of the kind 0", ofKind0(), 1900);
    }

    private static int ofKind0() {
        BasketryOffice x = new BasketryOffice();
        x.item(0, BasketryOffice.CARLI, ALWAYS);
        x.spend(0, 0, 9);
        x.spend(2, 3, 1);
        x.adopt();
        publish(x, 100);
        return publish(x, 200);
    }

    private static double coreOf(int... cents) {
        BasketryOffice x = new BasketryOffice();
        for (int group = 0; group < 4; group++) {
            x.item(group, BasketryOffice.CARLI, ALWAYS);
            x.quote(group, 0, 100, 100);
        }
        x.publish();
        for (int group = 0; group < 4; group++) {
            x.quote(group, 0, cents[group], 100);
        }
        x.publish();
        return x.core(1);
    }

    private static void core() {
        Edge edge = edge(
                "the greatest one is left out, of several the one of the lowest GROUP, and then the least one of the others, "
                + "of several the one of the lowest GROUP; it is the sum of the other two, divided by 2.0");
        int[] parts = {110, 120, 130, 140};
        for (int order = 0; order < 256; order++) {
            int[] places = {order % 4, order / 4 % 4, order / 16 % 4, order / 64};
            int[] cents = new int[4];
            int[] sorted = new int[4];
            for (int group = 0; group < 4; group++) {
                cents[group] = parts[places[group]];
                sorted[group] = cents[group];
            }
            Arrays.sort(sorted);
            double want = (sorted[1] / 100.0 + sorted[2] / 100.0) / 2.0;
            edge.due("relatives " + Arrays.toString(cents), coreOf(cents), want);
        }
        edge.due("nothing told", Scene.FULL.make().core(0), 1.0);
    }

    private static void direct() {
        Edge edge = edge(
                "100.0 times the sum, over the GROUPS, of the share of this month for the kind 0 times the product "
                + "of the RELATIVES of the GROUP in the months 1 to this one");
        BasketryOffice x = followed();
        edge.due("no month yet: 1.0", x.direct(0), 100.0);
        publish(x, 1100);
        edge.due("the month 1 with it", x.direct(1), 100.0 * (11.0 / 10.0));
        x.spend(0, 0, 0);
        x.spend(2, 1, 5);
        x.adopt();
        publish(x, 1210);
        edge.due("the share of this month for all that passed", x.direct(2), 100.0);
        edge.due("the index goes by the share of each", x.index(0, 2), 100.0 * (11.0 / 10.0) * 1.0);
        for (int month = 3; month < 24; month++) {
            publish(x, 1210);
        }
        x.spend(0, 0, 5);
        x.adopt();
        edge.due("the month 23", x.direct(23), 100.0);
        BasketryOffice half = new BasketryOffice();
        half.item(0, BasketryOffice.CARLI, ALWAYS);
        publish(half, 100);
        publish(half, 200);
        edge.due("nothing adopted", half.direct(1), 100.0 * (0.25 * 2.0 + 0.25 + 0.25 + 0.25));
    }

    // ---- fixes

    private static void fixes() {
        Edge edge = edge(
                "A QUOTE of a published month may be fixed, once and again: it has other cents then, or the same ones, "
                + "which count for what is told as corrected alone");
        BasketryOffice x = followed();
        publish(x, 1100);
        publish(x, 1210);
        edge.due("once", x.fix(1, 0, 0, 1000), 1100);
        edge.due("as corrected", x.corrected(0, 1), 100.0);
        edge.due("and again", x.fix(1, 0, 0, 2000), 1000);
        edge.due("as corrected again", x.corrected(0, 1), 200.0);
        edge.due("the same ones", x.fix(1, 0, 0, 2000), 2000);
        edge.due("as corrected as before", x.corrected(0, 1), 200.0);
        edge.due("as told at first", x.fix(1, 0, 0, 1100), 2000);
        edge.due("is corrected to what was published", x.corrected(0, 1), x.index(0, 1));
        edge.due("and counts as fixed", x.count(4), 1);
        edge.due("the last month", x.fix(2, 0, 0, 100000), 1210);
        edge.due("now", Check.outcome(() -> x.fix(3, 0, 0, 1)), "IndexOutOfBoundsException");
        for (int cents : new int[] {1, 100000}) {
            x.fix(0, 0, 0, cents);
            edge.due("no match by " + cents, x.corrected(0, 1), 100.0);
        }
    }

    private static void fixesAllElseAsItWas() {
        Edge edge = edge(
                "that is what would be, if all QUOTES that are fixed had had these cents as their months were published, "
                + "all else having been as it was (for which QUOTE was confirmed, what was adopted, and so on)");
        BasketryOffice x = new BasketryOffice();
        x.item(0, BasketryOffice.CARLI, ALWAYS);
        x.spend(0, 0, 1);
        x.adopt();
        publish(x, 100);
        x.quote(0, 0, 110, 100);
        x.confirm(0, 0);
        x.quote(0, 1, 110, 100);
        x.link(0, 0, 200, 100);
        x.publish();
        x.spend(0, 0, 0);
        x.adopt();
        publish(x, 300);
        x.fix(1, 0, 0, 3000);
        edge.due("it was confirmed", x.corrected(0, 1), 100.0 * 30.0);
        edge.due("what was adopted then", x.corrected(0, 2), 100.0 * 30.0 * (0.25 * (3.0 / 2.0) + 0.25 + 0.25 + 0.25));
        x.fix(1, 0, 0, 3001);
        edge.due("beyond the bound", x.corrected(0, 1), 100.0);
        x.fix(1, 0, 0, 110);
        x.fix(0, 0, 0, 50);
        edge.due("a base that is fixed", x.corrected(0, 1), 100.0 * (1.1 / 0.5));
        x.fix(2, 0, 0, 600);
        double step = 0.25 * (6.0 / 2.0) + 0.25 + 0.25 + 0.25;
        edge.due("by the link that was told", x.corrected(2, 2), 100.0 * (1.1 / 0.5) * step);
    }

    private static void fixesChangeNothingElse() {
        Edge edge = edge("Nothing else changes by a fix.");
        for (Scene scene : new Scene[] {Scene.ORDINARY, Scene.NEARLY_FULL, Scene.FULL}) {
            BasketryOffice x = scene.make();
            x.fix(0, 0, 0, 77);
            x.fix(1, 0, 0, 7);
            edge.due("in " + scene, notCorrected(Story.ofQuestions(x)), notCorrected(Story.ofQuestions(scene.make())));
            edge.due("two more are fixed in " + scene, x.count(4), 3);
        }
        BasketryOffice x = followed();
        x.fix(0, 0, 0, 3000);
        edge.due("the base of now", publish(x, 2000), 2000);
    }

    private static List<String> notCorrected(List<String> story) {
        return story.stream()
                .filter(each -> !each.startsWith("corrected") && !each.startsWith("owed") && !each.startsWith("count"))
                .toList();
    }

    // ---- contracts

    private static void contracts() {
        Edge edge = edge(
                "Contracts are numbered from 0, at most 10: each has a wage in cents, a lag, a trigger and a floor or none, "
                + "and a last number, with its month, at first that of the latest month that is published.");
        BasketryOffice x = followed();
        for (int number = 0; number < 10; number++) {
            publish(x, 1000 + 10 * number);
            edge.due("its number", x.contract(1000000000, 3, 500, true), number);
            edge.due("the last number", x.ofContract(number, 1), 1000L + 10 * number);
            edge.due("its month", x.ofContract(number, 2), number + 1L);
            edge.due("the wage", x.ofContract(number, 0), 1000000000L);
            edge.due("nothing paid", x.ofContract(number, 3), 0L);
        }
        edge.due("no number 10", Check.outcome(() -> x.contract(1, 0, 0, true)), "IllegalStateException");
        edge.due("ten in all", x.count(3), 10);
    }

    private static void contractsLag() {
        Edge edge = edge(
                "n is the number of the month t less the lag, if that is later than the month of the last number");
        BasketryOffice x = followed();
        publish(x, 1100);
        for (int lag = 0; lag < 4; lag++) {
            x.contract(1000, lag, 0, true);
        }
        for (int month = 2; month < 24; month++) {
            int number = publish(x, 1000 + 100 * month);
            edge.due("the number " + month, number, 1000 + 100 * month);
            for (int lag = 0; lag < 4; lag++) {
                long looked = Math.max(1, month - lag);
                String what = "lag " + lag + ", month " + month;
                edge.due(what, x.ofContract(lag, 2), looked);
                edge.due(what + ", its number", x.ofContract(lag, 1), 1000 + 100 * looked);
            }
        }
        BasketryOffice y = followed();
        publish(y, 2000);
        publish(y, 1500);
        y.contract(1000, 2, 0, false);
        publish(y, 1500);
        publish(y, 1500);
        edge.due("not the month of the last number, nor one ahead of it", y.ofContract(0, 2), 2L);
        publish(y, 1500);
        edge.due("the month after it", y.ofContract(0, 2), 3L);
    }

    /** A contract of 1000000 cents at the first number, the second number published: the month of its last number. */
    private static long lastMonth(int trigger, boolean hasFloor, int first, int second) {
        BasketryOffice x = followed();
        publish(x, first);
        x.contract(1000000, 0, trigger, hasFloor);
        int number = publish(x, second);
        if (number != second || x.published(1) != first) {
            throw new IllegalStateException("the numbers are not those that the test needs");
        }
        long wage = x.ofContract(0, 2) == 2 ? 1000000L * second / first : 1000000L;
        return x.ofContract(0, 0) == wage ? x.ofContract(0, 2) : -1;
    }

    private static void contractsRise() {
        Edge edge = edge("n times 1000 is at least the last number times (1000 and the trigger, together)");
        for (boolean hasFloor : new boolean[] {true, false}) {
            edge.due("trigger 500, just", lastMonth(500, hasFloor, 1000, 1500), 2L);
            edge.due("trigger 500, one less", lastMonth(500, hasFloor, 1000, 1499), 1L);
            edge.due("trigger 499, one less than for 500", lastMonth(499, hasFloor, 1000, 1499), 2L);
            edge.due("trigger 20, just", lastMonth(20, hasFloor, 1000, 1020), 2L);
            edge.due("trigger 20, one less", lastMonth(20, hasFloor, 1000, 1019), 1L);
            edge.due("trigger 1, from 1001, not by 1002", lastMonth(1, hasFloor, 1001, 1002), 1L);
            edge.due("trigger 1, from 1001, by 1003", lastMonth(1, hasFloor, 1001, 1003), 2L);
            edge.due("trigger 0, the same", lastMonth(0, hasFloor, 1000, 1000), 2L);
            edge.due("trigger 1, the same", lastMonth(1, hasFloor, 1000, 1000), 1L);
        }
        edge.due("trigger 0, one less, a floor", lastMonth(0, true, 1000, 999), 1L);
    }

    private static void contractsFall() {
        Edge edge = edge(
                "or there is no floor and n times 1000 is at most the last number times (1000 less the trigger)");
        edge.due("trigger 500, just", lastMonth(500, false, 1000, 500), 2L);
        edge.due("trigger 500, one more", lastMonth(500, false, 1000, 501), 1L);
        edge.due("trigger 499, one more than for 500", lastMonth(499, false, 1000, 501), 2L);
        edge.due("trigger 20, just", lastMonth(20, false, 1000, 980), 2L);
        edge.due("trigger 20, one more", lastMonth(20, false, 1000, 981), 1L);
        edge.due("trigger 1, from 1001, not by 1000", lastMonth(1, false, 1001, 1000), 1L);
        edge.due("trigger 1, from 1001, by 999", lastMonth(1, false, 1001, 999), 2L);
        edge.due("trigger 0, one less", lastMonth(0, false, 1000, 999), 2L);
        edge.due("trigger 500, just, a floor", lastMonth(500, true, 1000, 500), 1L);
        edge.due("trigger 0, one less, a floor", lastMonth(0, true, 1000, 999), 1L);
    }

    /** From the greatest number and from the least: what ints would hold no more. */
    private static void contractsFarNumbers() {
        Edge edge = edge("and the last number is n then, with its month");
        BasketryOffice x = moved(30, 1, 30, 1, 30, 1, 30, 1, 30, 1);
        edge.due("the greatest", x.publish(), 2147483647);
        x.contract(1000000000, 0, 500, false);
        x.contract(1000000000, 0, 0, true);
        x.contract(1000000000, 0, 1, true);
        edge.due("the greatest again", x.publish(), 2147483647);
        edge.due("trigger 500, the same", x.ofContract(0, 2), 6L);
        edge.due("trigger 0, the same", x.ofContract(1, 2), 7L);
        edge.due("trigger 0, the wage is the same", x.ofContract(1, 0), 1000000000L);
        edge.due("trigger 1, the same", x.ofContract(2, 2), 6L);
        BasketryOffice y = moved(1, 30, 1, 30, 1, 30);
        edge.due("the least", y.publish(), 1);
        y.contract(1000000000, 0, 500, true);
        y.contract(1000000000, 3, 500, false);
        y.link(0, 0, 1, 1);
        y.publish();
        for (int times = 0; times < 8; times++) {
            y.quote(0, 0, 30, 1);
            y.confirm(0, 0);
            y.link(0, 0, 1, 1);
            y.publish();
        }
        edge.due("from the least to the greatest", y.ofContract(0, 1), 2147483647L);
        edge.due("the wage is the greatest", y.ofContract(0, 0), 1000000000L);
    }

    private static long wageBy(int wage, int first, int second) {
        BasketryOffice x = followed();
        publish(x, first);
        x.contract(wage, 0, 0, false);
        publish(x, second);
        return x.ofContract(0, 0);
    }

    private static void contractsWage() {
        Edge edge = edge(
                "the wage becomes the wage times n, divided by the last number, rounded down, but 1000000000 at most");
        edge.due("rounded down", wageBy(1001, 1000, 1999), 2000L);
        edge.due("nothing to round", wageBy(1000, 1000, 1999), 1999L);
        edge.due("1 stays 1", wageBy(1, 1000, 1999), 1L);
        edge.due("1 becomes 2", wageBy(1, 1000, 2000), 2L);
        edge.due("1 becomes 0", wageBy(1, 1000, 999), 0L);
        edge.due("just the greatest", wageBy(500000000, 1000, 2000), 1000000000L);
        edge.due("one more", wageBy(500000001, 1000, 2000), 1000000000L);
        edge.due("just below it", wageBy(999999999, 1000, 1000), 999999999L);
        edge.due("the greatest, thrice", wageBy(1000000000, 1000, 3000), 1000000000L);
        edge.due("the greatest, lowered", wageBy(1000000000, 1000, 999), 999000000L);
        BasketryOffice x = followed();
        x.contract(600000000, 0, 0, false);
        publish(x, 2000);
        publish(x, 1000);
        edge.due("from the greatest, not from what it would have been", x.ofContract(0, 0), 500000000L);
        BasketryOffice none = followed();
        none.contract(1, 0, 0, false);
        publish(none, 999);
        publish(none, 2000);
        edge.due("0 stays 0", none.ofContract(0, 0), 0L);
        edge.due("nothing is paid then", none.ofContract(0, 3), 0L);
    }

    private static void contractsPay() {
        Edge edge = edge("Then the wage is paid.");
        BasketryOffice x = followed();
        x.contract(1000, 0, 0, true);
        edge.due("not as it is told", x.ofContract(0, 3), 0L);
        publish(x, 2000);
        edge.due("as it became", x.ofContract(0, 3), 2000L);
        publish(x, 1000);
        edge.due("as it stayed", x.ofContract(0, 3), 4000L);
        BasketryOffice last = Scene.NEARLY_FULL.make();
        long before = last.ofContract(8, 3);
        last.publish();
        edge.due("in the month 23", last.ofContract(8, 3), before + last.ofContract(8, 0));
    }

    private static void contractsByContract() {
        Edge edge = edge("With each publishing of a month t, contract by contract");
        BasketryOffice x = followed();
        for (int number = 0; number < 10; number++) {
            x.contract(100 + number, number % 4, 50 * number, number % 2 == 0);
        }
        publish(x, 1200);
        for (int number = 0; number < 10; number++) {
            boolean isMoved = number % 4 == 0 && 50 * number <= 200;
            long wage = isMoved ? (100L + number) * 1200 / 1000 : 100 + number;
            edge.due("the contract " + number, x.ofContract(number, 0), wage);
            edge.due("the contract " + number + ", paid", x.ofContract(number, 3), wage);
        }
    }
}
