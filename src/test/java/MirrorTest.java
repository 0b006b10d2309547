import java.util.ArrayList;
import java.util.List;
import java.util.Random;
import java.util.TreeMap;
import java.util.function.Supplier;

/** Long runs of calls, ordinary and wrong ones, on the program and on its mirror. */
public final class MirrorTest {
    private static final int RUNS = 400;
    private static final int CALLS = 512;

    private final Check check;
    private final Random random;
    private final String run;
    private final BasketryOffice office = new BasketryOffice();
    private final Mirror mirror = new Mirror();
    private final TreeMap<String, Integer> answered;
    /** How wild the quotes of this run are: 0 near 100, 1 around the bounds, 2 anything. */
    private final int wildness;
    private final boolean isSteep;
    private final int perMonth;
    private final List<int[]> quoted = new ArrayList<>();
    private int calls = 0;

    private MirrorTest(Check check, int seed, TreeMap<String, Integer> answered) {
        this.check = check;
        this.answered = answered;
        random = new Random(seed);
        run = "run " + seed;
        wildness = random.nextInt(3);
        isSteep = random.nextInt(6) == 0;
        perMonth = 3 + random.nextInt(8);
    }

    public static void main(String[] args) {
        Check check = new Check();
        TreeMap<String, Integer> answered = new TreeMap<>();
        for (int seed = 0; seed < RUNS; seed++) {
            new MirrorTest(check, seed, answered).play();
        }
        check.due("methods that answered", answered.keySet().stream().filter(name -> !name.endsWith("Exception")).count(),
                26L);
        check.end("MirrorTest");
    }

    private void play() {
        for (int item = 1 + random.nextInt(5); item > 0; item--) {
            tellItem();
        }
        while (calls < CALLS) {
            int choice = random.nextInt(perMonth + 10);
            if (choice < perMonth) {
                tellOfNow();
            } else if (choice < perMonth + 1) {
                compare("publish", "", () -> office.publish(), () -> mirror.publish());
            } else if (choice < perMonth + 4) {
                tellApart();
            } else {
                ask();
            }
        }
    }

    private void compare(String name, String arguments, Supplier<Object> got, Supplier<Object> want) {
        if (calls == CALLS) {
            return;
        }
        calls++;
        String due = Check.answer(want).replace(" of the machine", "");
        check.due(run + ", call " + calls + ", " + name + arguments, Check.answer(got), due);
        answered.merge(name + (due.endsWith("Exception") ? " " + due : ""), 1, Integer::sum);
    }

    // ---- what is told

    private void tellItem() {
        int group = upTo(3);
        int mean = upTo(2);
        int season = random.nextInt(3) > 0 ? 4095 : ranged(1, 4095);
        compare("item", text(group, mean, season),
                () -> office.item(group, mean, season), () -> mirror.item(group, mean, season));
    }

    private void tellOfNow() {
        int item = anItem();
        int outlet = upTo(3);
        int cents = cents();
        int grams = wildness == 2 ? ranged(1, 10000) : 100;
        int choice = random.nextInt(10);
        if (choice == 0) {
            compare("link", text(item, outlet, cents, grams), () -> {
                office.link(item, outlet, cents, grams);
                return "told";
            }, () -> {
                mirror.link(item, outlet, cents, grams);
                return "told";
            });
            return;
        }
        compare("quote", text(item, outlet, cents, grams),
                () -> office.quote(item, outlet, cents, grams), () -> mirror.quote(item, outlet, cents, grams));
        quoted.add(new int[] {mirror.count(1), item, outlet});
        if (choice < 4) {
            compare("confirm", text(item, outlet),
                    () -> office.confirm(item, outlet), () -> mirror.confirm(item, outlet));
        }
    }

    private void tellApart() {
        switch (random.nextInt(6)) {
            case 0 -> tellItem();
            case 1 -> {
                int household = upTo(2);
                int group = upTo(3);
                int cents = random.nextBoolean() ? ranged(0, 1000000000) : random.nextInt(3) * 100;
                compare("spend", text(household, group, cents),
                        () -> office.spend(household, group, cents), () -> mirror.spend(household, group, cents));
            }
            case 2 -> compare("adopt", "", () -> office.adopt(), () -> mirror.adopt());
            case 3 -> {
                int wage = random.nextInt(4) == 0 ? random.nextInt(5) : ranged(1, 1000000000);
                int lag = upTo(3);
                int trigger = random.nextBoolean() ? 0 : ranged(0, 500);
                boolean hasFloor = random.nextBoolean();
                compare("contract", text(wage, lag, trigger) + hasFloor,
                        () -> office.contract(wage, lag, trigger, hasFloor),
                        () -> mirror.contract(wage, lag, trigger, hasFloor));
            }
            default -> {
                int[] place = quoted.isEmpty() || random.nextInt(8) == 0
                        ? new int[] {aMonth(), anItem(), upTo(3)}
                        : quoted.get(random.nextInt(quoted.size()));
                int month = place[0];
                int item = place[1];
                int outlet = place[2];
                int cents = cents();
                compare("fix", text(month, item, outlet, cents),
                        () -> office.fix(month, item, outlet, cents), () -> mirror.fix(month, item, outlet, cents));
            }
        }
    }

    // ---- what is asked

    private void ask() {
        int item = anItem();
        int outlet = upTo(3);
        int month = aMonth();
        int group = upTo(3);
        int kind = upTo(4);
        int contract = upTo(Math.max(0, mirror.count(3) - 1));
        int what = upTo(3);
        int counted = upTo(4);
        String place = text(item, outlet, month);
        switch (random.nextInt(17)) {
            case 0 -> compare("price", place,
                    () -> office.price(item, outlet, month), () -> mirror.price(item, outlet, month));
            case 1 -> compare("isMatched", place,
                    () -> office.isMatched(item, outlet, month), () -> mirror.isMatched(item, outlet, month));
            case 2 -> compare("relative", text(item, month),
                    () -> office.relative(item, month), () -> mirror.relative(item, month));
            case 3 -> compare("bounce", text(item, month),
                    () -> office.bounce(item, month), () -> mirror.bounce(item, month));
            case 4 -> compare("ofGroup", text(group, month),
                    () -> office.ofGroup(group, month), () -> mirror.ofGroup(group, month));
            case 5 -> compare("share", text(kind, group, month),
                    () -> office.share(kind, group, month), () -> mirror.share(kind, group, month));
            case 6 -> compare("index", text(kind, month),
                    () -> office.index(kind, month), () -> mirror.index(kind, month));
            case 7 -> compare("indexAnew", text(kind, month),
                    () -> office.indexAnew(kind, month), () -> mirror.index(kind, month));
            case 8 -> compare("corrected", text(kind, month),
                    () -> office.corrected(kind, month), () -> mirror.corrected(kind, month));
            case 9 -> compare("published", text(month),
                    () -> office.published(month), () -> mirror.published(month));
            case 10 -> compare("growth", text(month),
                    () -> office.growth(month), () -> mirror.growth(month));
            case 11 -> compare("core", text(month), () -> office.core(month), () -> mirror.core(month));
            case 12 -> compare("direct", text(month), () -> office.direct(month), () -> mirror.direct(month));
            case 13 -> compare("doubts", text(month), () -> office.doubts(month), () -> mirror.doubts(month));
            case 14 -> compare("ofContract", text(contract, what),
                    () -> office.ofContract(contract, what), () -> mirror.ofContract(contract, what));
            case 15 -> compare("owed", text(contract),
                    () -> office.owed(contract), () -> mirror.owed(contract));
            default -> compare("count", text(counted), () -> office.count(counted), () -> mirror.count(counted));
        }
    }

    // ---- arguments

    private int anItem() {
        return upTo(Math.max(0, mirror.count(0) - 1));
    }

    private int aMonth() {
        return upTo(Math.max(0, mirror.count(1) - 1));
    }

    private int cents() {
        if (isSteep) {
            // Nearly thirty times as dear, month after month, as long as cents allow it.
            return ranged(1, Math.min(100000, 1 + (int) Math.pow(25, mirror.count(1) % 4)));
        }
        return switch (wildness) {
            case 0 -> ranged(80, 120);
            case 1 -> new int[] {3, 10, 33, 34, 90, 100, 110, 299, 300, 301, 3000}[random.nextInt(11)];
            default -> ranged(1, 100000);
        };
    }

    private int upTo(int greatest) {
        return ranged(0, greatest);
    }

    /** Mostly a number of the range, now and then its ends, one beyond them, or a far one. */
    private int ranged(int least, int greatest) {
        return switch (random.nextInt(160)) {
            case 0 -> least - 1;
            case 1 -> greatest + 1;
            case 2 -> random.nextBoolean() ? Integer.MIN_VALUE : Integer.MAX_VALUE;
            case 3, 4 -> least;
            case 5, 6 -> greatest;
            default -> least + random.nextInt(greatest - least + 1);
        };
    }

    private static String text(int... numbers) {
        return java.util.Arrays.toString(numbers);
    }
}
