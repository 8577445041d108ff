import java.util.ArrayDeque;
import java.util.ArrayList;
import java.util.Deque;
import java.util.List;
import java.util.regex.Matcher;
import java.util.regex.Pattern;

/** The document once more, in the plainest way and with the whole Java library: states are copied, sets are gone through. */
final class Reference {
    private static final int BAD = Due.BAD;
    private static final int STATE = Due.STATE;
    private static final int FULL = Due.FULL;
    private static final int NONE = Due.NONE;

    private static final class Weighing {
        final int kind;
        final int count;
        final int reading;
        final int guess;

        Weighing(int kind, int count, int reading, int guess) {
            this.kind = kind;
            this.count = count;
            this.reading = reading;
            this.guess = guess;
        }
    }

    private static final class Customer {
        int points;
        Weighing kept;

        Customer(int points, Weighing kept) {
            this.points = points;
            this.kept = kept;
        }
    }

    private static final class World {
        int[] weights = {1000, 1000, 1000, 1000};
        int[] spreads = {10, 10, 10, 10};
        int step = 100;
        int limit = 50;
        int bias;
        int rule;
        int fee = 5;
        int gift;
        List<Customer> customers = new ArrayList<>();
        List<int[]> prizes = new ArrayList<>();

        World copy() {
            World copy = new World();
            copy.weights = weights.clone();
            copy.spreads = spreads.clone();
            copy.step = step;
            copy.limit = limit;
            copy.bias = bias;
            copy.rule = rule;
            copy.fee = fee;
            copy.gift = gift;
            for (Customer customer : customers) {
                copy.customers.add(new Customer(customer.points, customer.kept));
            }
            for (int[] prize : prizes) {
                copy.prizes.add(prize.clone());
            }
            return copy;
        }

        int points() {
            return customers.stream().mapToInt(customer -> customer.points).sum();
        }
    }

    /** The world now and the snapshots. */
    private static final class State {
        World world = new World();
        World[] slots = new World[2];

        State copy() {
            State copy = new State();
            copy.world = world.copy();
            copy.slots = slots.clone();
            return copy;
        }
    }

    private static final Pattern TOKEN = Pattern.compile("[a-z]+|[0-9]+|[^ ]", Pattern.DOTALL);
    private static final String[] WORDS = {"kind", "scale", "rule", "come", "prize", "weigh", "claim", "buy"};
    private static final int[] CALLS = {0, 1, 3, 5, 9, 7, 8, 12};
    private static final int[] NUMBERS = {3, 2, 1, 1, 5, 3, 2, 3};

    private State state = new State();
    private final Deque<State> history = new ArrayDeque<>();
    private String text = "";
    private int[] failure;

    int action(int call, int[] a) {
        State before = state.copy();
        int answer = act(call, a);
        if (answer != BAD && answer != STATE && answer != FULL) {
            record(before);
        }
        return answer;
    }

    private void record(State before) {
        history.addLast(before);
        if (history.size() > 5) {
            history.removeFirst();
        }
    }

    private int act(int call, int[] a) {
        World w = state.world;
        switch (call) {
            case 0: return setKind(w, a);
            case 1: return setScale(w, a);
            case 2: return setBias(w, a[0]);
            case 3: return setRule(w, a[0]);
            case 4: return setFee(w, a[0]);
            case 5: return come(w, a[0]);
            case 6: return leave(w, a[0]);
            case 7: return weigh(w, a);
            case 8: return claim(w, a);
            case 9: return addPrize(w, a);
            case 10: return removePrize(w, a[0]);
            case 11: return setPrice(w, a);
            case 12: return buy(w, a);
            case 13: return take(a[0]);
            default: return restore(a[0]);
        }
    }

    private static boolean in(long number, long least, long greatest) {
        return least <= number && number <= greatest;
    }

    private static int setKind(World w, int[] a) {
        if (!in(a[0], 0, 3) || !in(a[1], 100, 5000) || !in(a[2], 0, 50)) {
            return BAD;
        }
        int previous = w.weights[a[0]];
        w.weights[a[0]] = a[1];
        w.spreads[a[0]] = a[2];
        return previous;
    }

    private static int setScale(World w, int[] a) {
        if (!in(a[0], 1, 1000) || !in(a[1], 0, 2000)) {
            return BAD;
        }
        w.step = a[0];
        w.limit = a[1];
        if (w.bias > w.limit) {
            w.bias = w.limit;
        }
        if (w.bias < -w.limit) {
            w.bias = -w.limit;
        }
        return w.bias;
    }

    private static int setBias(World w, int bias) {
        if (!in(bias, -w.limit, w.limit)) {
            return BAD;
        }
        int previous = w.bias;
        w.bias = bias;
        return previous;
    }

    private static int setRule(World w, int rule) {
        if (!in(rule, 0, 3)) {
            return BAD;
        }
        int previous = w.rule;
        w.rule = rule;
        return previous;
    }

    private static int setFee(World w, int fee) {
        if (!in(fee, 0, 100)) {
            return BAD;
        }
        int previous = w.fee;
        w.fee = fee;
        return previous;
    }

    private static int come(World w, int points) {
        if (!in(points, 0, 9999)) {
            return BAD;
        }
        if (w.customers.size() == 6) {
            return FULL;
        }
        w.customers.add(new Customer(points, null));
        return w.customers.size() - 1;
    }

    private static int leave(World w, int customer) {
        return in(customer, 0, w.customers.size() - 1) ? w.customers.remove(customer).points : BAD;
    }

    private static int weigh(World w, int[] a) {
        if (!in(a[0], 0, w.customers.size() - 1) || !in(a[1], 0, 3) || !in(a[2], 1, 500)) {
            return BAD;
        }
        if (!in(a[3], -(long) a[2] * w.spreads[a[1]], (long) a[2] * w.spreads[a[1]])) {
            return BAD;
        }
        int reading = nearest(w.step, a[2] * w.weights[a[1]] + a[3] + w.bias);
        int guess = guess(w, reading, a[1], w.rule);
        Customer customer = w.customers.get(a[0]);
        customer.points += guess;
        customer.kept = new Weighing(a[1], a[2], reading, guess);
        w.gift += guess - a[2];
        return guess;
    }

    private static int claim(World w, int[] a) {
        if (!in(a[0], 0, w.customers.size() - 1) || !in(a[1], 0, 9999)) {
            return BAD;
        }
        Customer customer = w.customers.get(a[0]);
        Weighing kept = customer.kept;
        if (kept == null || kept.guess == a[1]) {
            return STATE;
        }
        customer.kept = null;
        if (!allowedCounts(w, kept.reading, kept.kind).contains(a[1])) {
            return 0;
        }
        customer.points = Math.max(customer.points + kept.count - kept.guess, 0);
        w.gift += kept.count - kept.guess;
        if (Math.abs(a[1] - kept.count) < Math.abs(kept.guess - kept.count)) {
            return 1;
        }
        customer.points = Math.max(customer.points - w.fee, 0);
        return 2;
    }

    private static int addPrize(World w, int[] a) {
        if (!in(a[0], 1, 5000) || !in(a[1], 1, 20000) || !in(a[2], 0, 99) || !in(a[3], 1, 100000) || !in(a[4], 1, 100000)) {
            return BAD;
        }
        if (w.prizes.size() == 6) {
            return FULL;
        }
        w.prizes.add(new int[] {a[0], a[1], a[2], a[3], a[4], 0, 0});
        return w.prizes.size() - 1;
    }

    private static int removePrize(World w, int prize) {
        return in(prize, 0, w.prizes.size() - 1) ? w.prizes.remove(prize)[2] : BAD;
    }

    private static int setPrice(World w, int[] a) {
        if (!in(a[0], 0, w.prizes.size() - 1) || !in(a[1], 1, 5000)) {
            return BAD;
        }
        int previous = w.prizes.get(a[0])[0];
        w.prizes.get(a[0])[0] = a[1];
        return previous;
    }

    private static int buy(World w, int[] a) {
        if (!in(a[0], 0, w.customers.size() - 1) || !in(a[1], 0, w.prizes.size() - 1) || !in(a[2], 1, 99)) {
            return BAD;
        }
        Customer customer = w.customers.get(a[0]);
        int[] prize = w.prizes.get(a[1]);
        if (customer.points < a[2] * prize[0]) {
            return STATE;
        }
        if (prize[2] < a[2]) {
            return FULL;
        }
        customer.points -= a[2] * prize[0];
        sell(prize, a[2]);
        return customer.points;
    }

    private static void sell(int[] prize, int pieces) {
        prize[2] -= pieces;
        prize[5] += pieces * prize[1];
        while (prize[5] >= prize[3]) {
            prize[5] -= prize[3];
            prize[6]++;
            prize[2] = Math.min(99, prize[2] + prize[4] / prize[1]);
        }
    }

    private int take(int slot) {
        if (!in(slot, 0, 1)) {
            return BAD;
        }
        state.slots[slot] = state.world.copy();
        return state.world.points();
    }

    private int restore(int slot) {
        if (!in(slot, 0, 1)) {
            return BAD;
        }
        if (state.slots[slot] == null) {
            return STATE;
        }
        state.world = state.slots[slot].copy();
        return state.world.points();
    }

    int undo() {
        if (history.isEmpty()) {
            return STATE;
        }
        state = history.removeLast();
        return history.size();
    }

    int append(int character) {
        if (!in(character, 1, 255)) {
            return BAD;
        }
        if (text.length() == 140) {
            return FULL;
        }
        text += (char) character;
        return text.length();
    }

    int clearText() {
        int length = text.length();
        text = "";
        return length;
    }

    int run() {
        State before = state.copy();
        List<String> tokens = new ArrayList<>();
        List<Integer> places = new ArrayList<>();
        Matcher matcher = TOKEN.matcher(text);
        while (matcher.find()) {
            tokens.add(matcher.group());
            places.add(matcher.start());
        }
        tokens.add("");
        places.add(text.length());
        int commands = 0;
        int next = 0;
        while (next < tokens.size() - 1) {
            int word = List.of(WORDS).indexOf(tokens.get(next));
            int place = places.get(next);
            int wrong = word < 0 ? next : wrongToken(tokens, next, NUMBERS[word]);
            if (wrong >= 0) {
                return fail(before, 1, places.get(wrong), NONE, commands);
            }
            int[] a = new int[5];
            for (int i = 0; i < NUMBERS[word]; i++) {
                a[i] = Integer.parseInt(tokens.get(next + 1 + i));
            }
            int answer = act(CALLS[word], a);
            if (answer == BAD || answer == STATE || answer == FULL) {
                return fail(before, answer == BAD ? 2 : 3, place, answer, commands);
            }
            next += NUMBERS[word] + 2;
            commands++;
        }
        record(before);
        text = "";
        return commands;
    }

    /** The first token behind a word that is not as it should be, or -1. */
    private static int wrongToken(List<String> tokens, int word, int numbers) {
        for (int i = 1; i <= numbers; i++) {
            if (!tokens.get(word + i).matches("0|[1-9][0-9]{0,5}")) {
                return word + i;
            }
        }
        return tokens.get(word + numbers + 1).equals(";") ? -1 : word + numbers + 1;
    }

    private int fail(State before, int kind, int place, int code, int commands) {
        state = before;
        failure = new int[] {kind, place, kind == 1 ? 1 : 2, code, commands};
        return -1000 - place;
    }

    int failure(int what) {
        if (!in(what, 0, 4)) {
            return BAD;
        }
        return failure == null ? NONE : failure[what];
    }

    int count(int what) {
        World w = state.world;
        switch (what) {
            case 0: return w.step;
            case 1: return w.limit;
            case 2: return w.bias;
            case 3: return w.rule;
            case 4: return w.fee;
            case 5: return w.customers.size();
            case 6: return w.prizes.size();
            case 7: return (int) w.customers.stream().filter(customer -> customer.kept != null).count();
            case 8: return w.gift;
            case 9: return w.points();
            case 10: return w.prizes.stream().mapToInt(prize -> prize[2]).sum();
            case 11: return (state.slots[0] == null ? 0 : 1) + (state.slots[1] == null ? 0 : 1);
            case 12: return history.size();
            case 13: return text.length();
            default: return BAD;
        }
    }

    int kind(int kind, int what) {
        if (!in(kind, 0, 3) || !in(what, 0, 1)) {
            return BAD;
        }
        return what == 0 ? state.world.weights[kind] : state.world.spreads[kind];
    }

    int customer(int number, int what) {
        if (!in(number, 0, state.world.customers.size() - 1) || !in(what, 0, 4)) {
            return BAD;
        }
        Customer customer = state.world.customers.get(number);
        if (what == 0) {
            return customer.points;
        }
        Weighing kept = customer.kept;
        return kept == null ? NONE : new int[] {0, kept.kind, kept.count, kept.reading, kept.guess}[what];
    }

    int prize(int number, int what) {
        if (!in(number, 0, state.world.prizes.size() - 1) || !in(what, 0, 6)) {
            return BAD;
        }
        return state.world.prizes.get(number)[what];
    }

    /** Of the multiples around a load, the later of two that are equally near. */
    private static int nearest(int step, int load) {
        int around = load / step * step;
        int best = around - 2 * step;
        for (int multiple = around - step; multiple <= around + 2 * step; multiple += step) {
            if (Math.abs(multiple - load) <= Math.abs(best - load)) {
                best = multiple;
            }
        }
        return best < 0 ? 0 : best;
    }

    int read(int load) {
        return in(load, -5000, 3000000) ? nearest(state.world.step, load) : BAD;
    }

    private static List<Integer> allowedCounts(World w, int reading, int kind) {
        List<Integer> counts = new ArrayList<>();
        if (reading % w.step != 0) {
            return counts;
        }
        for (int count = 0; count <= 70000; count++) {
            int least = nearest(w.step, count * (w.weights[kind] - w.spreads[kind]) - w.limit);
            int greatest = nearest(w.step, count * (w.weights[kind] + w.spreads[kind]) + w.limit);
            if (least > reading) {
                break;
            }
            if (reading <= greatest) {
                counts.add(count);
            }
        }
        return counts;
    }

    int allowed(int reading, int kind, int what) {
        if (!in(reading, 0, 3000000) || !in(kind, 0, 3) || !in(what, 0, 2)) {
            return BAD;
        }
        List<Integer> counts = allowedCounts(state.world, reading, kind);
        if (what == 2) {
            return counts.size();
        }
        return counts.isEmpty() ? NONE : counts.get(what == 0 ? 0 : counts.size() - 1);
    }

    private static int guess(World w, int reading, int kind, int rule) {
        List<Integer> counts = allowedCounts(w, reading, kind);
        if (counts.isEmpty()) {
            return NONE;
        }
        int least = counts.get(0);
        int greatest = counts.get(counts.size() - 1);
        if (rule == 1 || rule == 2) {
            return rule == 1 ? least : greatest;
        }
        if (rule == 3) {
            return (least + greatest) / 2;
        }
        int best = least;
        for (int count : counts) {
            if (Math.abs(count * w.weights[kind] - reading) < Math.abs(best * w.weights[kind] - reading)) {
                best = count;
            }
        }
        return best;
    }

    int guess(int reading, int kind, int rule) {
        if (!in(reading, 0, 3000000) || !in(kind, 0, 3) || !in(rule, 0, 3)) {
            return BAD;
        }
        return guess(state.world, reading, kind, rule);
    }

    private int apart(int step, int kind, int most) {
        World w = state.world;
        int[] from = new int[most + 1];
        int[] to = new int[most + 1];
        for (int count = 0; count <= most; count++) {
            from[count] = nearest(step, count * (w.weights[kind] - w.spreads[kind]) - w.limit);
            to[count] = nearest(step, count * (w.weights[kind] + w.spreads[kind]) + w.limit);
            for (int other = 0; other < count; other++) {
                if (from[count] <= to[other] && from[other] <= to[count]) {
                    return count - 1;
                }
            }
        }
        return most;
    }

    int apartUpTo(int kind) {
        return in(kind, 0, 3) ? apart(state.world.step, kind, 999) : BAD;
    }

    int bestStep(int kind, int count) {
        if (!in(kind, 0, 3) || !in(count, 0, 99)) {
            return BAD;
        }
        int best = NONE;
        for (int step = 1; step <= 1000; step++) {
            if (apart(step, kind, count) >= count) {
                best = step;
            }
        }
        return best;
    }

    int mixed(int one, int other, int reading, int what) {
        if (!in(one, 0, 3) || !in(other, 0, 3) || one == other || !in(reading, 0, 3000000) || !in(what, 0, 2)) {
            return BAD;
        }
        World w = state.world;
        int pairs = 0;
        int least = NONE;
        int greatest = NONE;
        for (int a = 0; a <= 60; a++) {
            for (int b = 0; a + b <= 60; b++) {
                int middle = a * w.weights[one] + b * w.weights[other];
                int around = a * w.spreads[one] + b * w.spreads[other] + w.limit;
                boolean isBetween = nearest(w.step, middle - around) <= reading && reading <= nearest(w.step, middle + around);
                if (isBetween && reading % w.step == 0) {
                    pairs++;
                    least = pairs == 1 ? a + b : Math.min(least, a + b);
                    greatest = Math.max(greatest, a + b);
                }
            }
        }
        return new int[] {pairs, least, greatest}[what];
    }

    int would(int rule) {
        if (!in(rule, 0, 3)) {
            return BAD;
        }
        int sum = 0;
        for (Customer customer : state.world.customers) {
            if (customer.kept != null) {
                int guess = guess(state.world, customer.kept.reading, customer.kept.kind, rule);
                if (guess == NONE) {
                    return NONE;
                }
                sum += guess - customer.kept.count;
            }
        }
        return 100000 + sum;
    }

    int fairest() {
        int best = 0;
        for (int rule = 0; rule < 4; rule++) {
            if (would(rule) == NONE) {
                return NONE;
            }
            if (Math.abs(would(rule) - 100000) < Math.abs(would(best) - 100000)) {
                best = rule;
            }
        }
        return best;
    }

    int soldOut(int number) {
        if (!in(number, 0, state.world.prizes.size() - 1)) {
            return BAD;
        }
        int[] prize = state.world.prizes.get(number).clone();
        int pieces = 0;
        while (prize[2] > 0 && pieces < 1000) {
            sell(prize, 1);
            pieces++;
        }
        return pieces < 1000 ? pieces : NONE;
    }

    int shop(int number, int what) {
        if (!in(number, 0, state.world.customers.size() - 1) || !in(what, 0, 2)) {
            return BAD;
        }
        List<int[]> sorted = new ArrayList<>(state.world.prizes);
        sorted.sort((one, other) -> Integer.compare(one[0], other[0]));
        int pieces = 0;
        int left = state.world.customers.get(number).points;
        int weight = 0;
        for (int[] prize : sorted) {
            for (int i = 0; i < prize[2] && left >= prize[0]; i++) {
                pieces++;
                left -= prize[0];
                weight += prize[1];
            }
        }
        return new int[] {pieces, left, weight}[what];
    }
}
