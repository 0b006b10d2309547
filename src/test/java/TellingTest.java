/** Promises 1 to 10: a new object, and what is told. */
public final class TellingTest {
    private static final Check CHECK = new Check();
    private static final Class<IndexOutOfBoundsException> PLACE = IndexOutOfBoundsException.class;
    private static final Class<IllegalArgumentException> ARGUMENT = IllegalArgumentException.class;
    private static final Class<IllegalStateException> STATE = IllegalStateException.class;
    private static final int[] FAR = {Integer.MIN_VALUE, -2, -1, Integer.MAX_VALUE};

    private TellingTest() { }

    public static void main(String[] args) {
        promise1NewObject();
        promise2Item();
        promise3Quote();
        promise3QuoteInSeason();
        promise4Confirm();
        promise5Link();
        promise6Spend();
        promise7Adopt();
        promise8Publish();
        promise8PublishAtTheEnds();
        promise9Fix();
        promise10Contract();
        promise10ContractMoves();
        promise10ContractAtTheTrigger();
        promise10ContractFromTheLeastNumber();
        promise10ContractLag();
        promise10ContractAtTheEnds();
        CHECK.end("TellingTest");
    }

    /** One item of the group 0, of Carli, always in season. */
    private static BasketryOffice oneItem() {
        BasketryOffice x = new BasketryOffice();
        x.item(0, BasketryOffice.CARLI, 4095);
        return x;
    }

    private static BasketryOffice publishedAll() {
        BasketryOffice x = oneItem();
        x.quote(0, 0, 100, 100);
        for (int month = 0; month < 24; month++) {
            x.publish();
        }
        return x;
    }

    /** All that is spent goes to the group 0: the index follows the one item. */
    private static BasketryOffice followed(int cents) {
        BasketryOffice x = oneItem();
        x.spend(0, 0, 1);
        x.adopt();
        x.quote(0, 0, cents, 100);
        x.publish();
        return x;
    }

    private static int publishAt(BasketryOffice x, int cents) {
        x.quote(0, 0, cents, 100);
        return x.publish();
    }

    private static void due(String what, Object got, Object want) {
        CHECK.due(what, got, want);
    }

    private static void refuse(String what, Class<? extends RuntimeException> want, Runnable call) {
        CHECK.dueThrow(what, want, call);
    }

    private static void promise1NewObject() {
        BasketryOffice x = new BasketryOffice();
        for (int what = 0; what < 5; what++) {
            due("1: count " + what, x.count(what), 0);
        }
        due("1: nothing adopted", x.adopt(), 0L);
        refuse("1: no item", PLACE, () -> x.quote(0, 0, 1, 1));
        refuse("1: no month", PLACE, () -> x.published(0));
        due("1: NONE", BasketryOffice.NONE, -1);
        due("1: CARLI", BasketryOffice.CARLI, 0);
        due("1: DUTOT", BasketryOffice.DUTOT, 1);
        due("1: HARMONIC", BasketryOffice.HARMONIC, 2);
        BasketryOffice other = oneItem();
        due("1: each object by itself", x.count(0) + other.count(0), 1);
    }

    private static void promise2Item() {
        BasketryOffice x = new BasketryOffice();
        for (int group : FAR) {
            refuse("2: group " + group, PLACE, () -> x.item(group, 0, 1));
            refuse("2: mean " + group, ARGUMENT, () -> x.item(0, group, 1));
            refuse("2: season " + group, ARGUMENT, () -> x.item(0, 0, group));
        }
        refuse("2: group 4", PLACE, () -> x.item(4, 0, 1));
        refuse("2: mean 3", ARGUMENT, () -> x.item(0, 3, 1));
        refuse("2: season 0", ARGUMENT, () -> x.item(0, 0, 0));
        refuse("2: season 4096", ARGUMENT, () -> x.item(0, 0, 4096));
        refuse("2: the group first", PLACE, () -> x.item(4, 3, 0));
        due("2: none told", x.count(0), 0);
        for (int number = 0; number < 12; number++) {
            due("2: number", x.item(number % 4, number % 3, number % 2 == 0 ? 1 : 4095), number);
        }
        refuse("2: a 13th", STATE, () -> x.item(0, 0, 1));
        refuse("2: a 13th without group", PLACE, () -> x.item(-1, 0, 1));
        refuse("2: a 13th without season", ARGUMENT, () -> x.item(0, 0, 0));
        due("2: 12 told", x.count(0), 12);
    }

    private static void promise3Quote() {
        BasketryOffice x = oneItem();
        for (int far : FAR) {
            refuse("3: item " + far, PLACE, () -> x.quote(far, 0, 1, 1));
            refuse("3: outlet " + far, PLACE, () -> x.quote(0, far, 1, 1));
            refuse("3: cents " + far, ARGUMENT, () -> x.quote(0, 0, far, 1));
            refuse("3: grams " + far, ARGUMENT, () -> x.quote(0, 0, 1, far));
        }
        refuse("3: item 1", PLACE, () -> x.quote(1, 0, 1, 1));
        refuse("3: outlet 4", PLACE, () -> x.quote(0, 4, 1, 1));
        refuse("3: cents 0", ARGUMENT, () -> x.quote(0, 0, 0, 1));
        refuse("3: cents 100001", ARGUMENT, () -> x.quote(0, 0, 100001, 1));
        refuse("3: grams 0", ARGUMENT, () -> x.quote(0, 0, 1, 0));
        refuse("3: grams 10001", ARGUMENT, () -> x.quote(0, 0, 1, 10001));
        refuse("3: the outlet first", PLACE, () -> x.quote(0, 4, 0, 0));
        due("3: the least", x.quote(0, 3, 1, 1), 1);
        due("3: the greatest", x.quote(0, 0, 100000, 10000), 2);
        refuse("3: told once", STATE, () -> x.quote(0, 0, 5, 5));
        refuse("3: the cents before the state", ARGUMENT, () -> x.quote(0, 0, 0, 5));
        due("3: of now", x.count(2), 2);
        x.publish();
        due("3: the rate", x.price(0, 0, 0), 100000.0 / 10000.0);
        due("3: of the next month", x.quote(0, 0, 5, 5), 1);
        BasketryOffice full = publishedAll();
        refuse("3: after 24 months", STATE, () -> full.quote(0, 0, 1, 1));
        refuse("3: after 24 months, no item", PLACE, () -> full.quote(1, 0, 1, 1));
        refuse("3: after 24 months, no grams", ARGUMENT, () -> full.quote(0, 0, 1, 0));
        due("3: none after 24 months", full.count(2), 0);
    }

    private static void promise3QuoteInSeason() {
        BasketryOffice x = new BasketryOffice();
        x.item(0, 0, 1);
        x.item(0, 0, 1 << 11);
        x.item(0, 0, 2 | 8);
        for (int month = 0; month < 24; month++) {
            int rest = month % 12;
            boolean[] isInSeason = {rest == 0, rest == 11, rest == 1 || rest == 3};
            for (int item = 0; item < 3; item++) {
                int asked = item;
                due("3: item " + item + " in month " + month, Check.outcome(() -> x.quote(asked, 0, 1, 1)),
                        isInSeason[item] ? "nothing thrown" : "IllegalStateException");
            }
            x.publish();
        }
    }

    private static void promise4Confirm() {
        BasketryOffice x = oneItem();
        for (int far : FAR) {
            refuse("4: item " + far, PLACE, () -> x.confirm(far, 0));
            refuse("4: outlet " + far, PLACE, () -> x.confirm(0, far));
        }
        refuse("4: item 1", PLACE, () -> x.confirm(1, 0));
        refuse("4: outlet 4", PLACE, () -> x.confirm(0, 4));
        refuse("4: no quote", STATE, () -> x.confirm(0, 0));
        x.quote(0, 0, 100, 100);
        refuse("4: no quote there", STATE, () -> x.confirm(0, 1));
        due("4: confirmed now", x.confirm(0, 0), false);
        due("4: confirmed before", x.confirm(0, 0), true);
        x.publish();
        refuse("4: no quote any more", STATE, () -> x.confirm(0, 0));
        x.quote(0, 0, 3000, 100);
        due("4: not confirmed in this month", x.confirm(0, 0), false);
        x.publish();
        due("4: confirmed, 30 times is matched", x.isMatched(0, 0, 1), true);
        x.quote(0, 0, 9001, 100);
        x.publish();
        due("4: confirmed in its month alone", x.isMatched(0, 0, 2), false);
        BasketryOffice full = publishedAll();
        refuse("4: after 24 months", STATE, () -> full.confirm(0, 0));
        refuse("4: after 24 months, no outlet", PLACE, () -> full.confirm(0, 4));
    }

    private static void promise5Link() {
        BasketryOffice x = oneItem();
        for (int far : FAR) {
            refuse("5: item " + far, PLACE, () -> x.link(far, 0, 1, 1));
            refuse("5: outlet " + far, PLACE, () -> x.link(0, far, 1, 1));
            refuse("5: cents " + far, ARGUMENT, () -> x.link(0, 0, far, 1));
            refuse("5: grams " + far, ARGUMENT, () -> x.link(0, 0, 1, far));
        }
        refuse("5: item 1", PLACE, () -> x.link(1, 0, 1, 1));
        refuse("5: outlet 4", PLACE, () -> x.link(0, 4, 1, 1));
        refuse("5: cents 0", ARGUMENT, () -> x.link(0, 0, 0, 1));
        refuse("5: cents 100001", ARGUMENT, () -> x.link(0, 0, 100001, 1));
        refuse("5: grams 0", ARGUMENT, () -> x.link(0, 0, 1, 0));
        refuse("5: grams 10001", ARGUMENT, () -> x.link(0, 0, 1, 10001));
        refuse("5: the outlet first", PLACE, () -> x.link(0, 4, 0, 0));
        x.quote(0, 0, 100, 100);
        x.link(0, 0, 400, 200);
        refuse("5: told once", STATE, () -> x.link(0, 0, 4, 2));
        refuse("5: the cents before the state", ARGUMENT, () -> x.link(0, 0, 0, 2));
        due("5: a link is no quote", x.count(2), 1);
        x.publish();
        due("5: not in its own month", x.price(0, 0, 0), 1.0);
        x.link(0, 1, 100000, 10000);
        x.quote(0, 0, 210, 100);
        x.publish();
        due("5: the base of the next month", x.relative(0, 1), 2.1 / 2.0);
        due("5: a base without a price before", x.price(0, 1, 1), 0.0);
        x.quote(0, 1, 1100, 100);
        x.publish();
        due("5: in the month after it", x.price(0, 1, 2), 11.0);
        due("5: by the link", x.relative(0, 2), 11.0 / 10.0);
        due("5: no link any more", x.price(0, 0, 2), 2.1 * (11.0 / 10.0));
        BasketryOffice outOfSeason = new BasketryOffice();
        outOfSeason.item(0, 0, 2);
        outOfSeason.link(0, 0, 1, 1);
        outOfSeason.publish();
        outOfSeason.quote(0, 0, 3, 2);
        outOfSeason.publish();
        due("5: out of season", outOfSeason.relative(0, 1), 1.5);
        BasketryOffice full = publishedAll();
        refuse("5: after 24 months", STATE, () -> full.link(0, 0, 1, 1));
        refuse("5: after 24 months, no item", PLACE, () -> full.link(1, 0, 1, 1));
        refuse("5: after 24 months, no cents", ARGUMENT, () -> full.link(0, 0, 0, 1));
    }

    private static void promise6Spend() {
        BasketryOffice x = new BasketryOffice();
        for (int far : FAR) {
            refuse("6: household " + far, PLACE, () -> x.spend(far, 0, 1));
            refuse("6: group " + far, PLACE, () -> x.spend(0, far, 1));
            refuse("6: cents " + far, ARGUMENT, () -> x.spend(0, 0, far));
        }
        refuse("6: household 3", PLACE, () -> x.spend(3, 0, 1));
        refuse("6: group 4", PLACE, () -> x.spend(0, 4, 1));
        refuse("6: the place first", PLACE, () -> x.spend(0, 4, -1));
        refuse("6: cents 1000000001", ARGUMENT, () -> x.spend(0, 0, 1000000001));
        due("6: it was 0", x.spend(2, 3, 1000000000), 0);
        due("6: it was the greatest", x.spend(2, 3, 7), 1000000000);
        x.adopt();
        due("6: adopted or not", x.spend(2, 3, 0), 7);
        due("6: the place alone", x.spend(2, 2, 5) + x.spend(1, 3, 5), 0);
    }

    private static void promise7Adopt() {
        BasketryOffice x = new BasketryOffice();
        for (int household = 0; household < 3; household++) {
            for (int group = 0; group < 4; group++) {
                x.spend(household, group, 1000000000);
            }
        }
        due("7: all, together", x.adopt(), 12000000000L);
        x.spend(0, 0, 0);
        x.publish();
        due("7: not adopted yet", x.share(0, 0, 0), 0.25);
        due("7: adopted again", x.adopt(), 11000000000L);
        x.publish();
        due("7: adopted by now", x.share(0, 0, 1), 2.0 / 11.0);
        due("7: the month before is as it was", x.share(0, 0, 0), 0.25);
    }

    private static void promise8Publish() {
        BasketryOffice x = new BasketryOffice();
        x.item(0, BasketryOffice.CARLI, 4095);
        x.quote(0, 0, 100, 100);
        due("8: the first", x.publish(), 1000);
        x.quote(0, 0, 120, 100);
        due("8: a fifth more in one of four groups", x.publish(), 1050);
        due("8: two months", x.count(1), 2);
        BasketryOffice kinds = oneItem();
        kinds.spend(0, 0, 9);
        kinds.spend(1, 1, 1);
        kinds.adopt();
        kinds.quote(0, 0, 100, 100);
        kinds.publish();
        due("8: of the kind 0", publishAt(kinds, 200), 1900);
        due("8: no quotes of now", x.count(2), 0);
        BasketryOffice full = publishedAll();
        due("8: 24 months", full.count(1), 24);
        refuse("8: a 25th", STATE, full::publish);
        due("8: 24 months still", full.count(1), 24);
        BasketryOffice rounded = followed(10000);
        due("8: rounded down", publishAt(rounded, 10004), 1000);
        rounded = followed(20000);
        due("8: rounded down, 0.45", publishAt(rounded, 20009), 1000);
        rounded = followed(20000);
        due("8: rounded up, 0.55", publishAt(rounded, 20011), 1001);
    }

    private static void promise8PublishAtTheEnds() {
        BasketryOffice dear = followed(100);
        BasketryOffice cheap = followed(100);
        for (int month = 1; month < 24; month++) {
            dear.link(0, 0, 1, 10);
            cheap.link(0, 0, 30, 10);
            dear.publish();
            cheap.publish();
            if (month < 23) {
                dear.quote(0, 0, 30, 10);
                dear.confirm(0, 0);
                cheap.quote(0, 0, 1, 10);
                cheap.confirm(0, 0);
            }
        }
        due("8: 30 times is within the bound", dear.relative(0, 2), 3.0 / 0.1);
        due("8: 1000 times 30, five times", dear.published(6) < 2147483647, false);
        due("8: the greatest number", dear.published(23), 2147483647);
        due("8: the index goes on", dear.index(0, 23) > 1e30, true);
        due("8: the least number", cheap.published(23), 1);
    }

    private static void promise9Fix() {
        BasketryOffice x = oneItem();
        x.quote(0, 0, 100, 100);
        refuse("9: nothing published", PLACE, () -> x.fix(0, 0, 0, 1));
        x.publish();
        x.quote(0, 0, 120, 100);
        for (int far : FAR) {
            refuse("9: month " + far, PLACE, () -> x.fix(far, 0, 0, 1));
            refuse("9: item " + far, PLACE, () -> x.fix(0, far, 0, 1));
            refuse("9: outlet " + far, PLACE, () -> x.fix(0, 0, far, 1));
            refuse("9: cents " + far, ARGUMENT, () -> x.fix(0, 0, 0, far));
        }
        refuse("9: now", PLACE, () -> x.fix(1, 0, 0, 1));
        refuse("9: item 1", PLACE, () -> x.fix(0, 1, 0, 1));
        refuse("9: outlet 4", PLACE, () -> x.fix(0, 0, 4, 1));
        refuse("9: cents 0", ARGUMENT, () -> x.fix(0, 0, 0, 0));
        refuse("9: cents 100001", ARGUMENT, () -> x.fix(0, 0, 0, 100001));
        refuse("9: the month first", PLACE, () -> x.fix(1, 0, 1, 0));
        refuse("9: the cents before the state", ARGUMENT, () -> x.fix(0, 0, 1, 0));
        refuse("9: no quote", STATE, () -> x.fix(0, 0, 1, 1));
        due("9: none fixed", x.count(4), 0);
        due("9: as told", x.fix(0, 0, 0, 100), 100);
        due("9: fixed to the same", x.count(4), 1);
        due("9: as told again", x.fix(0, 0, 0, 100000), 100);
        due("9: as fixed", x.fix(0, 0, 0, 1), 100000);
        due("9: one quote", x.count(4), 1);
        x.publish();
        due("9: another month", x.fix(1, 0, 0, 60), 120);
        due("9: two quotes", x.count(4), 2);
        due("9: the price stays", x.price(0, 0, 1), 1.2);
        due("9: the index stays", x.index(0, 1), 100.0 * (0.25 * 1.2 + 0.25 + 0.25 + 0.25));
        due("9: redone it stays", x.indexAnew(0, 1), x.index(0, 1));
        due("9: the number stays", x.published(1), 1050);
    }

    private static void promise10Contract() {
        BasketryOffice x = oneItem();
        refuse("10: nothing published", STATE, () -> x.contract(1, 0, 0, true));
        refuse("10: the wage first", ARGUMENT, () -> x.contract(0, 0, 0, true));
        x.publish();
        for (int far : FAR) {
            refuse("10: wage " + far, ARGUMENT, () -> x.contract(far, 0, 0, true));
            refuse("10: lag " + far, ARGUMENT, () -> x.contract(1, far, 0, true));
            refuse("10: trigger " + far, ARGUMENT, () -> x.contract(1, 0, far, true));
        }
        refuse("10: wage 0", ARGUMENT, () -> x.contract(0, 0, 0, true));
        refuse("10: wage 1000000001", ARGUMENT, () -> x.contract(1000000001, 0, 0, true));
        refuse("10: lag 4", ARGUMENT, () -> x.contract(1, 4, 0, true));
        refuse("10: trigger 501", ARGUMENT, () -> x.contract(1, 0, 501, true));
        due("10: none told", x.count(3), 0);
        due("10: the least", x.contract(1, 0, 0, true), 0);
        due("10: the greatest", x.contract(1000000000, 3, 500, false), 1);
        for (int number = 2; number < 10; number++) {
            due("10: number", x.contract(5, 0, 0, true), number);
        }
        refuse("10: an 11th", STATE, () -> x.contract(1, 0, 0, true));
        refuse("10: an 11th without wage", ARGUMENT, () -> x.contract(0, 0, 0, true));
        due("10: ten told", x.count(3), 10);
        BasketryOffice full = publishedAll();
        due("10: after 24 months", full.contract(1, 0, 0, true), 0);
        due("10: of the last month", full.ofContract(0, 2), 23L);
    }

    private static void promise10ContractMoves() {
        BasketryOffice x = followed(100);
        x.contract(1001, 0, 100, true);
        x.contract(1001, 0, 100, false);
        due("10: a tenth less a bit", publishAt(x, 109), 1090);
        due("10: not triggered", x.ofContract(0, 0), 1001L);
        due("10: the last number stays", x.ofContract(0, 1), 1000L);
        due("10: its month stays", x.ofContract(0, 2), 0L);
        due("10: a tenth", publishAt(x, 110), 1100);
        due("10: triggered, rounded down", x.ofContract(0, 0), 1101L);
        due("10: the last number", x.ofContract(0, 1), 1100L);
        due("10: its month", x.ofContract(0, 2), 2L);
        due("10: a tenth below, or nearly", publishAt(x, 100), 1000);
        due("10: not fallen yet", x.ofContract(1, 0), 1101L);
        due("10: a tenth below", publishAt(x, 99), 990);
        due("10: with a floor", x.ofContract(0, 0), 1101L);
        due("10: with a floor, the last number", x.ofContract(0, 1), 1100L);
        due("10: without", x.ofContract(1, 0), 990L);
        due("10: without, the last number", x.ofContract(1, 1), 990L);
        due("10: paid", x.ofContract(1, 3), 1001L + 1101 + 1101 + 990);
    }

    private static void promise10ContractAtTheTrigger() {
        BasketryOffice x = followed(100000);
        x.contract(100000, 0, 0, true);
        x.contract(100000, 0, 100, false);
        due("10: nearly a tenth less", publishAt(x, 90100), 901);
        due("10: not triggered", x.ofContract(1, 0), 100000L);
        due("10: just a tenth less", publishAt(x, 90000), 900);
        due("10: triggered", x.ofContract(1, 0), 90000L);
        due("10: more", publishAt(x, 100000), 1000);
        due("10: the same is enough without a trigger", x.ofContract(0, 2), 3L);
        due("10: more than a tenth of 900", x.ofContract(1, 1), 1000L);
        BasketryOffice y = followed(1000);
        publishAt(y, 2000);
        y.contract(100000, 0, 0, true);
        due("10: less by one", publishAt(y, 1999), 1999);
        due("10: not triggered by less", y.ofContract(0, 1), 2000L);
        due("10: the same", publishAt(y, 2000), 2000);
        due("10: triggered by the same", y.ofContract(0, 2), 3L);
        due("10: and the wage is the same", y.ofContract(0, 0), 100000L);
    }

    private static void promise10ContractFromTheLeastNumber() {
        BasketryOffice x = followed(100);
        for (int times = 0; times < 3; times++) {
            x.link(0, 0, 30, 10);
            x.publish();
            x.quote(0, 0, 1, 10);
            x.confirm(0, 0);
        }
        due("10: the least number", x.publish(), 1);
        x.contract(100, 0, 0, true);
        for (int times = 0; times < 2; times++) {
            x.link(0, 0, 1, 10);
            x.publish();
            x.quote(0, 0, 30, 10);
            x.confirm(0, 0);
        }
        due("10: 900 times 0.037 is 33.3", x.publish(), 33);
        due("10: from the least number", x.ofContract(0, 0), 3300L);
    }

    private static void promise10ContractLag() {
        BasketryOffice x = followed(100);
        publishAt(x, 110);
        x.contract(1000, 2, 0, true);
        x.contract(1000, 3, 0, true);
        int[] cents = {120, 130, 140, 150};
        for (int each : cents) {
            publishAt(x, each);
        }
        due("10: number 3 of 1, in the month 5", x.ofContract(0, 1), 1300L);
        due("10: month 3", x.ofContract(0, 2), 3L);
        due("10: first in the month 4", x.ofContract(0, 3), 1000L + 1000 + 1090 + 1180);
        due("10: month 2", x.ofContract(1, 2), 2L);
        due("10: first in the month 5", x.ofContract(1, 3), 1000L + 1000 + 1000 + 1090);
    }

    private static void promise10ContractAtTheEnds() {
        BasketryOffice x = followed(100);
        x.contract(1000000000, 0, 0, false);
        x.contract(1, 0, 0, false);
        x.contract(666666667, 0, 0, true);
        x.contract(666666666, 0, 0, true);
        publishAt(x, 150);
        due("10: the greatest wage", x.ofContract(0, 0), 1000000000L);
        due("10: its last number goes on", x.ofContract(0, 1), 1500L);
        due("10: rounded down to 1", x.ofContract(1, 0), 1L);
        due("10: just above the greatest", x.ofContract(2, 0), 1000000000L);
        due("10: just below the greatest", x.ofContract(3, 0), 999999999L);
        publishAt(x, 75);
        due("10: halved", x.ofContract(0, 0), 500000000L);
        due("10: rounded down to 0", x.ofContract(1, 0), 0L);
        publishAt(x, 150);
        due("10: 0 for ever", x.ofContract(1, 0), 0L);
    }
}
