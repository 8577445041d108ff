import java.util.Arrays;
import java.util.Random;

/** All promises: long runs of calls by chance (always the same ones), compared with the plain reference. */
public final class ReferenceTest {
    private static final int RUNS = 600;
    private static final int MOST_CALLS = 512;
    private static final String[] NAMES = {"setKind", "setScale", "setBias", "setRule", "setFee", "come", "leave", "weigh", "claim",
        "addPrize", "removePrize", "setPrice", "buy", "take", "restore", "undo", "append", "clearText", "run", "failure", "count",
        "kind", "customer", "prize", "read", "allowed", "guess", "apartUpTo", "bestStep", "mixed", "would", "fairest", "soldOut", "shop"};
    private static final int[] OFTEN = {3, 3, 4, 2, 1, 4, 1, 14, 10, 4, 1, 2, 12, 3, 3, 4, 0, 1, 6, 4, 8, 2, 8, 8, 3, 5, 4, 2, 1, 3, 5, 3, 4, 6};
    private static final String[] PIECES = {"rule", "kind", "scale", "come", "prize", "weigh", "claim", "buy", ";", " ", "0", "00", "7", "1000000", "-", "Z", "\u00e9", "fee"};

    private final Random random;
    private final TicketScales x = new TicketScales();
    private final Reference reference = new Reference();
    private final boolean isWild;
    private int calls;

    private ReferenceTest(int run) {
        random = new Random(run);
        isWild = run % 4 == 0;
    }

    public static void main(String[] args) {
        for (int run = 0; run < RUNS && !Due.anyWrong(); run++) {
            new ReferenceTest(run).goThrough(run);
        }
        Due.end();
    }

    private void goThrough(int run) {
        while (calls < MOST_CALLS && !Due.anyWrong()) {
            int call = chosen();
            if (call == 18) {
                type(run);
            }
            int[] a = arguments(call);
            compare(run, call, a);
        }
    }

    private void compare(int run, int call, int[] a) {
        if (calls >= MOST_CALLS) {
            return;
        }
        calls++;
        String text = "run " + run + ", call " + calls + ": " + Calls.text(NAMES[call], a);
        Due.due(text, Calls.answer(x, NAMES[call], a), referenceAnswer(call, a));
    }

    private int chosen() {
        int all = Arrays.stream(OFTEN).sum();
        int drawn = random.nextInt(all);
        int call = 0;
        while (drawn >= OFTEN[call]) {
            drawn -= OFTEN[call];
            call++;
        }
        return call;
    }

    /** Mostly within the range, now and then at its ends, beside them or far off. */
    private int between(int least, int greatest) {
        int kind = random.nextInt(isWild ? 12 : 40);
        switch (kind) {
            case 0: return least;
            case 1: return greatest;
            case 2: return least - 1;
            case 3: return greatest + 1;
            case 4: return random.nextInt(8) > 0 ? least : random.nextInt();
            case 5: return random.nextInt(8) > 0 ? greatest : random.nextBoolean() ? Integer.MIN_VALUE : Integer.MAX_VALUE;
            default: return greatest < least ? least : least + random.nextInt(greatest - least + 1);
        }
    }

    /** Small numbers as often as great ones. */
    private int grown(int greatest) {
        int most = 1;
        while (most < greatest && random.nextInt(5) > 0) {
            most = Math.min(greatest, most * 3);
        }
        return between(1, most);
    }

    private int someCustomer() {
        return between(0, reference.count(5) - 1);
    }

    private int somePrize() {
        return between(0, reference.count(6) - 1);
    }

    private int someReading() {
        int step = reference.count(0);
        int greatest = random.nextBoolean() ? 60000 : 3000000;
        int reading = between(0, greatest);
        return random.nextInt(8) == 0 || reading < 0 ? reading : reading / step * step;
    }

    private int someClaim() {
        int customer = random.nextInt(6);
        int guess = reference.customer(customer, 4);
        return guess < 0 ? between(0, 9999) : Math.max(0, guess - 4 + random.nextInt(9));
    }

    private int[] arguments(int call) {
        switch (call) {
            case 0: return new int[] {between(0, 3), random.nextBoolean() ? between(100, 300) : between(100, 5000), between(0, 50)};
            case 1: return new int[] {random.nextInt(3) == 0 ? grown(1000) : 100, random.nextBoolean() ? between(0, 60) : grown(2000)};
            case 2: return new int[] {between(-reference.count(1), reference.count(1))};
            case 3: return new int[] {between(0, 3)};
            case 4: return new int[] {between(0, 100)};
            case 5: return new int[] {random.nextBoolean() ? between(0, 9999) : between(0, 30)};
            case 6: return new int[] {someCustomer()};
            case 7: return weighed();
            case 8: return claimed();
            case 9: return new int[] {grown(5000), grown(20000), between(0, 99), 50 + grown(99950), grown(100000)};
            case 10: return new int[] {somePrize()};
            case 11: return new int[] {somePrize(), grown(5000)};
            case 12: return new int[] {someCustomer(), somePrize(), random.nextBoolean() ? between(1, 3) : between(1, 99)};
            case 13: return new int[] {between(0, 1)};
            case 14: return new int[] {between(0, 1)};
            case 19: return new int[] {between(0, 4)};
            case 20: return new int[] {between(0, 13)};
            case 21: return new int[] {between(0, 3), between(0, 1)};
            case 22: return new int[] {someCustomer(), between(0, 4)};
            case 23: return new int[] {somePrize(), between(0, 6)};
            case 24: return new int[] {random.nextBoolean() ? between(-5000, 5000) : between(-5000, 3000000)};
            case 25: return new int[] {someReading(), between(0, 3), between(0, 2)};
            case 26: return new int[] {someReading(), between(0, 3), between(0, 3)};
            case 27: return new int[] {between(0, 3)};
            case 28: return new int[] {between(0, 3), random.nextInt(3) > 0 ? between(0, 20) : between(0, 99)};
            case 29: return new int[] {between(0, 3), between(0, 3), someReading() / 2, between(0, 2)};
            case 30: return new int[] {between(0, 3)};
            case 32: return new int[] {somePrize()};
            case 33: return new int[] {someCustomer(), between(0, 2)};
            default: return new int[0];
        }
    }

    private int[] weighed() {
        int kind = between(0, 3);
        int count = random.nextBoolean() ? between(1, 500) : between(1, 40);
        int spread = Math.max(0, reference.kind(kind, 1));
        int furthest = count >= 1 && count <= 500 ? count * spread : 5;
        return new int[] {someCustomer(), kind, count, between(-furthest, furthest)};
    }

    private int[] claimed() {
        int customer = someCustomer();
        int guess = reference.customer(customer, 4);
        boolean isNear = guess >= 0 && random.nextInt(10) > 0;
        return new int[] {customer, isNear ? Math.max(0, guess - 3 + random.nextInt(7)) : someClaim()};
    }

    private void type(int run) {
        if (random.nextBoolean()) {
            compare(run, 17, new int[0]);
        }
        StringBuilder text = new StringBuilder();
        int commands = random.nextInt(5);
        for (int i = 0; i < commands; i++) {
            text.append(command());
        }
        if (random.nextInt(4) == 0) {
            int place = random.nextInt(text.length() + 1);
            text.insert(place, PIECES[random.nextInt(PIECES.length)]);
        }
        if (random.nextInt(6) == 0) {
            text.setLength(random.nextInt(text.length() + 1));
        }
        for (int i = 0; i < text.length(); i++) {
            compare(run, 16, new int[] {text.charAt(i)});
        }
        if (random.nextInt(10) == 0) {
            compare(run, 16, new int[] {between(1, 255)});
        }
    }

    private String command() {
        switch (random.nextInt(9)) {
            case 0: return told("kind", arguments(0));
            case 1: return told("scale", arguments(1));
            case 2: return told("rule", arguments(3));
            case 3: return told("come", arguments(5));
            case 4: return told("prize", arguments(9));
            case 5: return told("claim", claimed());
            case 6: return told("buy", arguments(12));
            default: return told("weigh", Arrays.copyOf(weighed(), 3));
        }
    }

    private String told(String word, int[] numbers) {
        StringBuilder text = new StringBuilder(spaces()).append(word);
        for (int i = 0; i < numbers.length; i++) {
            text.append(i > 0 && spaces().isEmpty() ? " " : spaces());
            text.append(i > 0 && text.charAt(text.length() - 1) != ' ' ? " " : "").append(numbers[i]);
        }
        return text.append(spaces()).append(';').toString();
    }

    private String spaces() {
        return " ".repeat(Math.max(0, random.nextInt(4) - 1) / 2);
    }

    private int referenceAnswer(int call, int[] a) {
        switch (call) {
            case 15: return reference.undo();
            case 16: return reference.append(a[0]);
            case 17: return reference.clearText();
            case 18: return reference.run();
            case 19: return reference.failure(a[0]);
            case 20: return reference.count(a[0]);
            case 21: return reference.kind(a[0], a[1]);
            case 22: return reference.customer(a[0], a[1]);
            case 23: return reference.prize(a[0], a[1]);
            case 24: return reference.read(a[0]);
            case 25: return reference.allowed(a[0], a[1], a[2]);
            case 26: return reference.guess(a[0], a[1], a[2]);
            case 27: return reference.apartUpTo(a[0]);
            case 28: return reference.bestStep(a[0], a[1]);
            case 29: return reference.mixed(a[0], a[1], a[2], a[3]);
            case 30: return reference.would(a[0]);
            case 31: return reference.fairest();
            case 32: return reference.soldOut(a[0]);
            case 33: return reference.shop(a[0], a[1]);
            default: return reference.action(call, a);
        }
    }
}
