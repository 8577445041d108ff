/**
 * The counter of an arcade, where tickets are weighed and not counted.
 *
 * <p>All rows are made by the constructor and used again, so that no call makes an object.
 */
public final class TicketScales {
    public static final int INVALID_ARGUMENT = -100001;
    public static final int ILLEGAL_STATE = -100002;
    public static final int CAPACITY_EXCEEDED = -100003;
    public static final int NONE = -100009;

    private static final int KINDS = 4;
    private static final int RULES = 4;
    private static final int SLOTS = 2;
    private static final int MOST_CUSTOMERS = 6;
    private static final int MOST_PRIZES = 6;
    private static final int MOST_STATES = 5;
    private static final int MOST_SIGNS = 140;
    private static final int MOST_STOCK = 99;
    private static final int MOST_LOOKED_AHEAD = 999;
    private static final int MOST_MIXED = 60;
    private static final int GREATEST_STEP = 1000;
    private static final int GREATEST_LIMIT = 2000;
    private static final int GREATEST_READING = 3000000;
    private static final int GREATEST_MARK = 100000;
    private static final int WOULD_BASE = 100000;
    private static final int FAILURE_BASE = -1000;

    private final History history;
    private final Program program;
    /** A row in which a sale is tried without any change of the prizes. */
    private final Prize trial;

    public TicketScales() {
        history = new History();
        program = new Program();
        trial = new Prize();
    }

    // ---- tickets, scale and rule

    public int setKind(int kind, int weight, int spread) {
        history.prepare();
        return history.settle(counter().changeKind(kind, weight, spread));
    }

    public int setScale(int step, int limit) {
        history.prepare();
        return history.settle(counter().changeScale(step, limit));
    }

    public int setBias(int bias) {
        history.prepare();
        return history.settle(counter().changeBias(bias));
    }

    public int setRule(int rule) {
        history.prepare();
        return history.settle(counter().changeRule(rule));
    }

    public int setFee(int fee) {
        history.prepare();
        return history.settle(counter().changeFee(fee));
    }

    // ---- customers

    public int come(int points) {
        history.prepare();
        return history.settle(counter().addCustomer(points));
    }

    public int leave(int customer) {
        history.prepare();
        return history.settle(counter().dropCustomer(customer));
    }

    public int weigh(int customer, int kind, int count, int deviation) {
        history.prepare();
        return history.settle(counter().weighBundle(customer, kind, count, deviation));
    }

    public int claim(int customer, int count) {
        history.prepare();
        return history.settle(counter().settleClaim(customer, count));
    }

    // ---- prizes

    public int addPrize(int price, int weight, int stock, int mark, int box) {
        history.prepare();
        return history.settle(counter().placePrize(price, weight, stock, mark, box));
    }

    public int removePrize(int prize) {
        history.prepare();
        return history.settle(counter().dropPrize(prize));
    }

    public int setPrice(int prize, int price) {
        history.prepare();
        return history.settle(counter().changePrice(prize, price));
    }

    public int buy(int customer, int prize, int pieces) {
        history.prepare();
        return history.settle(counter().sellPrize(customer, prize, pieces));
    }

    // ---- snapshots

    public int take(int slot) {
        history.prepare();
        return history.settle(history.now.fillSlot(slot));
    }

    public int restore(int slot) {
        history.prepare();
        return history.settle(history.now.useSlot(slot));
    }

    public int undo() {
        return history.stepBack();
    }

    // ---- programs

    public int append(int character) {
        return program.addSign(character);
    }

    public int clearText() {
        return program.emptyText();
    }

    public int run() {
        history.prepare();
        int answer = program.runOn(counter());
        if (answer < 0) {
            history.abandon();
            return answer;
        }
        program.emptyText();
        return history.settle(answer);
    }

    public int failure(int what) {
        return program.failure.part(what);
    }

    // ---- looking

    public int count(int what) {
        switch (what) {
            case 11:
                return history.now.slotsInUse();
            case 12:
                return history.size;
            case 13:
                return program.length;
            default:
                return counter().number(what);
        }
    }

    public int kind(int kind, int what) {
        Kind row = counter().kindAt(kind);
        if (row == null || !within(what, 0, 1)) {
            return INVALID_ARGUMENT;
        }
        return what == 0 ? row.weight : row.spread;
    }

    public int customer(int customer, int what) {
        Customer row = counter().customerAt(customer);
        if (row == null) {
            return INVALID_ARGUMENT;
        }
        return row.part(what);
    }

    public int prize(int prize, int what) {
        Prize row = counter().prizeAt(prize);
        if (row == null) {
            return INVALID_ARGUMENT;
        }
        return row.part(what);
    }

    // ---- what readings allow, which changes nothing

    public int read(int load) {
        if (!within(load, -5000, GREATEST_READING)) {
            return INVALID_ARGUMENT;
        }
        return readingAt(counter().scale.step, load);
    }

    public int allowed(int reading, int kind, int what) {
        Kind row = counter().kindAt(kind);
        if (!within(reading, 0, GREATEST_READING) || row == null || !within(what, 0, 2)) {
            return INVALID_ARGUMENT;
        }
        int least = counter().scale.leastCount(reading, row);
        int greatest = counter().scale.greatestCount(reading, row);
        if (least > greatest) {
            return what == 2 ? 0 : NONE;
        }
        switch (what) {
            case 0:
                return least;
            case 1:
                return greatest;
            default:
                return greatest - least + 1;
        }
    }

    public int guess(int reading, int kind, int rule) {
        Kind row = counter().kindAt(kind);
        if (!within(reading, 0, GREATEST_READING) || row == null || !within(rule, 0, RULES - 1)) {
            return INVALID_ARGUMENT;
        }
        return counter().scale.guessFrom(reading, row, rule);
    }

    public int apartUpTo(int kind) {
        Kind row = counter().kindAt(kind);
        if (row == null) {
            return INVALID_ARGUMENT;
        }
        return counter().scale.lastApart(row);
    }

    public int bestStep(int kind, int count) {
        Kind row = counter().kindAt(kind);
        if (row == null || !within(count, 0, 99)) {
            return INVALID_ARGUMENT;
        }
        return counter().scale.greatestStep(row, count);
    }

    public int mixed(int one, int other, int reading, int what) {
        Kind first = counter().kindAt(one);
        Kind second = counter().kindAt(other);
        if (first == null || second == null || one == other) {
            return INVALID_ARGUMENT;
        }
        if (!within(reading, 0, GREATEST_READING) || !within(what, 0, 2)) {
            return INVALID_ARGUMENT;
        }
        return counter().scale.mixedPairs(first, second, reading, what);
    }

    public int would(int rule) {
        if (!within(rule, 0, RULES - 1)) {
            return INVALID_ARGUMENT;
        }
        return counter().given(rule);
    }

    public int fairest() {
        return counter().fairestRule();
    }

    // ---- what prizes could do, which changes nothing

    public int soldOut(int prize) {
        Prize row = counter().prizeAt(prize);
        if (row == null) {
            return INVALID_ARGUMENT;
        }
        trial.copyFrom(row);
        return trial.sellOut();
    }

    public int shop(int customer, int what) {
        Customer row = counter().customerAt(customer);
        if (row == null || !within(what, 0, 2)) {
            return INVALID_ARGUMENT;
        }
        return counter().shopWith(row.points, what);
    }

    // ---- helpers

    /** The object moves from one state to another, so the counter is asked for anew by each call. */
    private Counter counter() {
        return history.now.counter;
    }

    private static boolean within(int number, int least, int greatest) {
        return number >= least && number <= greatest;
    }

    /** NONE is no error by the document's words. */
    private static boolean isError(int answer) {
        return answer == INVALID_ARGUMENT || answer == ILLEGAL_STATE || answer == CAPACITY_EXCEEDED;
    }

    /** Rounded down; 0 where there is nothing to divide by, so that no division can fail. */
    private static int quotient(int number, int divisor) {
        if (divisor < 1) {
            return 0;
        }
        return Math.floorDiv(number, divisor);
    }

    /** Half a step is added ahead of the rounding, so the greater one of two equally near multiples is read. */
    private static int readingAt(int step, int load) {
        return Math.max(0, step * quotient(2 * load + step, 2 * step));
    }

    /** A kind of tickets. */
    private static final class Kind {
        int weight = 1000;
        int spread = 10;

        void copyFrom(Kind other) {
            weight = other.weight;
            spread = other.spread;
        }

        int lightest() {
            return weight - spread;
        }

        int heaviest() {
            return weight + spread;
        }
    }

    /** The scale, and what its readings allow. */
    private static final class Scale {
        int step = 100;
        int limit = 50;
        int bias;

        void copyFrom(Scale other) {
            step = other.step;
            limit = other.limit;
            bias = other.bias;
        }

        boolean shows(int reading) {
            return step >= 1 && reading % step == 0;
        }

        /**
         * The least load that has a reading. The reading 0 has all lesser loads too, but no bundle's greatest
         * load is below 0, so it makes no difference for what this reading allows.
         */
        int loadFrom(int reading) {
            return reading - step / 2;
        }

        int loadTo(int reading) {
            return reading + (step - 1) / 2;
        }

        /** The least allowed count if any is allowed; it is above the greatest one if none is. */
        int leastCount(int reading, Kind kind) {
            int heaviest = kind.heaviest();
            int missing = loadFrom(reading) - limit;
            return Math.max(0, quotient(missing + heaviest - 1, heaviest));
        }

        /** The greatest allowed count if any is allowed; -1 if the scale never shows the reading. */
        int greatestCount(int reading, Kind kind) {
            if (!shows(reading)) {
                return -1;
            }
            return quotient(loadTo(reading) + limit, kind.lightest());
        }

        int guessFrom(int reading, Kind kind, int rule) {
            int least = leastCount(reading, kind);
            int greatest = greatestCount(reading, kind);
            if (least > greatest) {
                return NONE;
            }
            switch (rule) {
                case 1:
                    return least;
                case 2:
                    return greatest;
                case 3:
                    return (least + greatest) / 2;
                default:
                    return Math.max(least, Math.min(greatest, nearestCount(reading, kind.weight)));
            }
        }

        private int nearestCount(int reading, int weight) {
            int below = quotient(reading, weight);
            int lack = reading - below * weight;
            return lack <= weight - lack ? below : below + 1;
        }

        /** Both ends of the readings of a count grow with it, so only neighbours can be the first to share one. */
        private boolean apartFromNext(int someStep, Kind kind, int count) {
            int greatestHere = readingAt(someStep, count * kind.heaviest() + limit);
            int leastNext = readingAt(someStep, (count + 1) * kind.lightest() - limit);
            return greatestHere < leastNext;
        }

        int lastApart(Kind kind) {
            for (int count = 0; count < MOST_LOOKED_AHEAD; count++) {
                if (!apartFromNext(step, kind, count)) {
                    return count;
                }
            }
            return MOST_LOOKED_AHEAD;
        }

        int greatestStep(Kind kind, int count) {
            for (int someStep = GREATEST_STEP; someStep >= 1; someStep--) {
                if (allApart(someStep, kind, count)) {
                    return someStep;
                }
            }
            return NONE;
        }

        /** From above, as great counts are the closest ones: so a step that does not do is left soon. */
        private boolean allApart(int someStep, Kind kind, int count) {
            for (int lower = count - 1; lower >= 0; lower--) {
                if (!apartFromNext(someStep, kind, lower)) {
                    return false;
                }
            }
            return true;
        }

        int mixedPairs(Kind one, Kind other, int reading, int what) {
            int pairs = 0;
            int least = NONE;
            int greatest = NONE;
            for (int together = 0; together <= MOST_MIXED; together++) {
                int here = pairsOf(together, one, other, reading);
                if (here > 0) {
                    pairs += here;
                    greatest = together;
                    if (least == NONE) {
                        least = together;
                    }
                }
            }
            switch (what) {
                case 0:
                    return pairs;
                case 1:
                    return least;
                default:
                    return greatest;
            }
        }

        private int pairsOf(int together, Kind one, Kind other, int reading) {
            if (!shows(reading)) {
                return 0;
            }
            int pairs = 0;
            for (int ones = 0; ones <= together; ones++) {
                int others = together - ones;
                int lightest = ones * one.lightest() + others * other.lightest() - limit;
                int heaviest = ones * one.heaviest() + others * other.heaviest() + limit;
                if (lightest <= loadTo(reading) && heaviest >= loadFrom(reading)) {
                    pairs++;
                }
            }
            return pairs;
        }
    }

    /** A customer; a row that is not in use is blank. */
    private static final class Customer {
        int points;
        boolean kept;
        int kind;
        int count;
        int reading;
        int guess;

        void copyFrom(Customer other) {
            points = other.points;
            kept = other.kept;
            kind = other.kind;
            count = other.count;
            reading = other.reading;
            guess = other.guess;
        }

        void begin(int newPoints) {
            points = newPoints;
            kept = false;
        }

        void keep(int newKind, int newCount, int newReading, int newGuess) {
            kept = true;
            kind = newKind;
            count = newCount;
            reading = newReading;
            guess = newGuess;
        }

        boolean isNearer(int claimed) {
            return Math.abs(claimed - count) < Math.abs(guess - count);
        }

        void gain(int more) {
            points = Math.max(0, points + more);
        }

        int part(int what) {
            if (!within(what, 0, 4)) {
                return INVALID_ARGUMENT;
            }
            if (what == 0) {
                return points;
            }
            if (!kept) {
                return NONE;
            }
            switch (what) {
                case 1:
                    return kind;
                case 2:
                    return count;
                case 3:
                    return reading;
                default:
                    return guess;
            }
        }
    }

    /** A prize; a row that is not in use is blank. */
    private static final class Prize {
        int price;
        int weight;
        int stock;
        int mark;
        int box;
        int sold;
        int boxes;

        void copyFrom(Prize other) {
            price = other.price;
            weight = other.weight;
            stock = other.stock;
            mark = other.mark;
            box = other.box;
            sold = other.sold;
            boxes = other.boxes;
        }

        void begin(int newPrice, int newWeight, int newStock, int newMark, int newBox) {
            price = newPrice;
            weight = newWeight;
            stock = newStock;
            mark = newMark;
            box = newBox;
            sold = 0;
            boxes = 0;
        }

        /**
         * All boxes that are due are delivered at once: the stock stops at the same number. They have 9900000
         * pieces at most, as no more than the weight of 99 pieces is sold and a box has no more than 100000.
         */
        void sell(int pieces) {
            stock -= pieces;
            sold += pieces * weight;
            int due = quotient(sold, mark);
            sold -= due * mark;
            boxes += due;
            stock = Math.min(MOST_STOCK, stock + due * quotient(box, weight));
        }

        /** Sells piece by piece, so only a copy of a prize is asked. */
        int sellOut() {
            for (int pieces = 0; pieces <= MOST_LOOKED_AHEAD; pieces++) {
                if (stock == 0) {
                    return pieces;
                }
                sell(1);
            }
            return NONE;
        }

        int part(int what) {
            switch (what) {
                case 0:
                    return price;
                case 1:
                    return weight;
                case 2:
                    return stock;
                case 3:
                    return mark;
                case 4:
                    return box;
                case 5:
                    return sold;
                case 6:
                    return boxes;
                default:
                    return INVALID_ARGUMENT;
            }
        }
    }

    /** What a snapshot keeps. Rows from the counts on are blank, so sums can go over all rows. */
    private static final class Counter {
        final Kind[] kinds = new Kind[KINDS];
        final Scale scale = new Scale();
        final Customer[] customers = new Customer[MOST_CUSTOMERS];
        final Prize[] prizes = new Prize[MOST_PRIZES];
        int customerCount;
        int prizeCount;
        int rule;
        int fee = 5;
        int gift;

        Counter() {
            for (int i = 0; i < KINDS; i++) {
                kinds[i] = new Kind();
            }
            for (int i = 0; i < MOST_CUSTOMERS; i++) {
                customers[i] = new Customer();
            }
            for (int i = 0; i < MOST_PRIZES; i++) {
                prizes[i] = new Prize();
            }
        }

        void copyFrom(Counter other) {
            for (int i = 0; i < KINDS; i++) {
                kinds[i].copyFrom(other.kinds[i]);
            }
            for (int i = 0; i < MOST_CUSTOMERS; i++) {
                customers[i].copyFrom(other.customers[i]);
            }
            for (int i = 0; i < MOST_PRIZES; i++) {
                prizes[i].copyFrom(other.prizes[i]);
            }
            scale.copyFrom(other.scale);
            customerCount = other.customerCount;
            prizeCount = other.prizeCount;
            rule = other.rule;
            fee = other.fee;
            gift = other.gift;
        }

        /** The row, or null if there is no such kind. */
        Kind kindAt(int number) {
            return within(number, 0, KINDS - 1) ? kinds[number] : null;
        }

        /** The row, or null if there is no such customer. */
        Customer customerAt(int number) {
            boolean isThere = number < customerCount && within(number, 0, MOST_CUSTOMERS - 1);
            return isThere ? customers[number] : null;
        }

        /** The row, or null if there is no such prize. */
        Prize prizeAt(int number) {
            boolean isThere = number < prizeCount && within(number, 0, MOST_PRIZES - 1);
            return isThere ? prizes[number] : null;
        }

        int changeKind(int kind, int weight, int spread) {
            Kind row = kindAt(kind);
            if (row == null || !within(weight, 100, 5000) || !within(spread, 0, 50)) {
                return INVALID_ARGUMENT;
            }
            int previous = row.weight;
            row.weight = weight;
            row.spread = spread;
            return previous;
        }

        int changeScale(int step, int limit) {
            if (!within(step, 1, GREATEST_STEP) || !within(limit, 0, GREATEST_LIMIT)) {
                return INVALID_ARGUMENT;
            }
            scale.step = step;
            scale.limit = limit;
            scale.bias = Math.max(-limit, Math.min(limit, scale.bias));
            return scale.bias;
        }

        int changeBias(int bias) {
            if (!within(bias, -scale.limit, scale.limit)) {
                return INVALID_ARGUMENT;
            }
            int previous = scale.bias;
            scale.bias = bias;
            return previous;
        }

        int changeRule(int newRule) {
            if (!within(newRule, 0, RULES - 1)) {
                return INVALID_ARGUMENT;
            }
            int previous = rule;
            rule = newRule;
            return previous;
        }

        int changeFee(int newFee) {
            if (!within(newFee, 0, 100)) {
                return INVALID_ARGUMENT;
            }
            int previous = fee;
            fee = newFee;
            return previous;
        }

        int addCustomer(int points) {
            if (!within(points, 0, 9999)) {
                return INVALID_ARGUMENT;
            }
            if (!within(customerCount, 0, MOST_CUSTOMERS - 1)) {
                return CAPACITY_EXCEEDED;
            }
            customers[customerCount].begin(points);
            customerCount++;
            return customerCount - 1;
        }

        int dropCustomer(int customer) {
            Customer gone = customerAt(customer);
            if (gone == null) {
                return INVALID_ARGUMENT;
            }
            int points = gone.points;
            for (int i = customer; i < MOST_CUSTOMERS - 1; i++) {
                customers[i] = customers[i + 1];
            }
            customers[MOST_CUSTOMERS - 1] = gone;
            gone.begin(0);
            customerCount--;
            return points;
        }

        int weighBundle(int customer, int kind, int count, int deviation) {
            Customer owner = customerAt(customer);
            Kind row = kindAt(kind);
            if (owner == null || row == null || !within(count, 1, 500)) {
                return INVALID_ARGUMENT;
            }
            int furthest = count * row.spread;
            if (!within(deviation, -furthest, furthest)) {
                return INVALID_ARGUMENT;
            }
            int reading = readingAt(scale.step, count * row.weight + deviation + scale.bias);
            // There is a guess always: the true count is one of those that its reading allows.
            int guess = scale.guessFrom(reading, row, rule);
            owner.gain(guess);
            owner.keep(kind, count, reading, guess);
            gift += guess - count;
            return guess;
        }

        int settleClaim(int customer, int claimed) {
            Customer owner = customerAt(customer);
            if (owner == null || !within(claimed, 0, 9999)) {
                return INVALID_ARGUMENT;
            }
            if (!owner.kept || claimed == owner.guess) {
                return ILLEGAL_STATE;
            }
            owner.kept = false;
            Kind row = kindAt(owner.kind);
            if (row == null || !allows(owner.reading, row, claimed)) {
                return 0;
            }
            owner.gain(owner.count - owner.guess);
            gift += owner.count - owner.guess;
            if (owner.isNearer(claimed)) {
                return 1;
            }
            owner.gain(-fee);
            return 2;
        }

        private boolean allows(int reading, Kind kind, int count) {
            return within(count, scale.leastCount(reading, kind), scale.greatestCount(reading, kind));
        }

        int placePrize(int price, int weight, int stock, int mark, int box) {
            if (!within(price, 1, 5000) || !within(weight, 1, 20000) || !within(stock, 0, MOST_STOCK)) {
                return INVALID_ARGUMENT;
            }
            if (!within(mark, 1, GREATEST_MARK) || !within(box, 1, GREATEST_MARK)) {
                return INVALID_ARGUMENT;
            }
            if (!within(prizeCount, 0, MOST_PRIZES - 1)) {
                return CAPACITY_EXCEEDED;
            }
            prizes[prizeCount].begin(price, weight, stock, mark, box);
            prizeCount++;
            return prizeCount - 1;
        }

        int dropPrize(int prize) {
            Prize gone = prizeAt(prize);
            if (gone == null) {
                return INVALID_ARGUMENT;
            }
            int stock = gone.stock;
            for (int i = prize; i < MOST_PRIZES - 1; i++) {
                prizes[i] = prizes[i + 1];
            }
            prizes[MOST_PRIZES - 1] = gone;
            gone.begin(0, 0, 0, 0, 0);
            prizeCount--;
            return stock;
        }

        int changePrice(int prize, int price) {
            Prize row = prizeAt(prize);
            if (row == null || !within(price, 1, 5000)) {
                return INVALID_ARGUMENT;
            }
            int previous = row.price;
            row.price = price;
            return previous;
        }

        int sellPrize(int customer, int prize, int pieces) {
            Customer buyer = customerAt(customer);
            Prize row = prizeAt(prize);
            if (buyer == null || row == null || !within(pieces, 1, 99)) {
                return INVALID_ARGUMENT;
            }
            if (buyer.points < pieces * row.price) {
                return ILLEGAL_STATE;
            }
            if (row.stock < pieces) {
                return CAPACITY_EXCEEDED;
            }
            buyer.points -= pieces * row.price;
            row.sell(pieces);
            return buyer.points;
        }

        int number(int what) {
            switch (what) {
                case 0:
                    return scale.step;
                case 1:
                    return scale.limit;
                case 2:
                    return scale.bias;
                case 3:
                    return rule;
                case 4:
                    return fee;
                case 5:
                    return customerCount;
                case 6:
                    return prizeCount;
                case 7:
                    return keptWeighings();
                case 8:
                    return gift;
                case 9:
                    return allPoints();
                case 10:
                    return allStocks();
                default:
                    return INVALID_ARGUMENT;
            }
        }

        private int keptWeighings() {
            int kept = 0;
            for (Customer row : customers) {
                if (row.kept) {
                    kept++;
                }
            }
            return kept;
        }

        int allPoints() {
            int points = 0;
            for (Customer row : customers) {
                points += row.points;
            }
            return points;
        }

        private int allStocks() {
            int pieces = 0;
            for (Prize row : prizes) {
                pieces += row.stock;
            }
            return pieces;
        }

        /** WOULD_BASE plus what a rule would have given, or NONE. */
        int given(int someRule) {
            int sum = WOULD_BASE;
            for (Customer row : customers) {
                if (row.kept) {
                    Kind kind = kindAt(row.kind);
                    int guess = kind == null ? NONE : scale.guessFrom(row.reading, kind, someRule);
                    if (guess == NONE) {
                        return NONE;
                    }
                    sum += guess - row.count;
                }
            }
            return sum;
        }

        int fairestRule() {
            int best = NONE;
            int nearest = 0;
            for (int someRule = 0; someRule < RULES; someRule++) {
                int sum = given(someRule);
                if (sum == NONE) {
                    return NONE;
                }
                int distance = Math.abs(sum - WOULD_BASE);
                if (best == NONE || distance < nearest) {
                    best = someRule;
                    nearest = distance;
                }
            }
            return best;
        }

        int shopWith(int points, int what) {
            int left = points;
            int pieces = 0;
            int weight = 0;
            int latest = -1;
            for (int i = 0; i < MOST_PRIZES; i++) {
                latest = nextByPrice(latest);
                Prize row = prizeAt(latest);
                if (row != null) {
                    int taken = Math.min(row.stock, quotient(left, row.price));
                    left -= taken * row.price;
                    pieces += taken;
                    weight += taken * row.weight;
                }
            }
            switch (what) {
                case 0:
                    return pieces;
                case 1:
                    return left;
                default:
                    return weight;
            }
        }

        /** The next prize by ascending prices, then numbers; the first one behind -1, prizeCount behind the last one. */
        private int nextByPrice(int latest) {
            int next = prizeCount;
            for (int i = 0; i < MOST_PRIZES; i++) {
                if (isBehind(i, latest) && (next == prizeCount || isBehind(next, i))) {
                    next = i;
                }
            }
            return next;
        }

        /** Whether a prize comes behind another one by price, then number; behind -1 comes every prize. */
        private boolean isBehind(int prize, int other) {
            Prize row = prizeAt(prize);
            Prize otherRow = prizeAt(other);
            if (row == null) {
                return false;
            }
            if (otherRow == null) {
                return other < 0;
            }
            return row.price > otherRow.price || row.price == otherRow.price && prize > other;
        }
    }

    /** What the history keeps: the counter, and the snapshots of it. */
    private static final class State {
        final Counter counter = new Counter();
        final Counter[] slots = new Counter[SLOTS];
        final boolean[] filled = new boolean[SLOTS];

        State() {
            for (int i = 0; i < SLOTS; i++) {
                slots[i] = new Counter();
            }
        }

        void copyFrom(State other) {
            counter.copyFrom(other.counter);
            for (int i = 0; i < SLOTS; i++) {
                filled[i] = other.filled[i];
                if (filled[i]) {
                    slots[i].copyFrom(other.slots[i]);
                }
            }
        }

        int fillSlot(int slot) {
            if (!within(slot, 0, SLOTS - 1)) {
                return INVALID_ARGUMENT;
            }
            slots[slot].copyFrom(counter);
            filled[slot] = true;
            return counter.allPoints();
        }

        int useSlot(int slot) {
            if (!within(slot, 0, SLOTS - 1)) {
                return INVALID_ARGUMENT;
            }
            if (!filled[slot]) {
                return ILLEGAL_STATE;
            }
            counter.copyFrom(slots[slot]);
            return counter.allPoints();
        }

        int slotsInUse() {
            int inUse = 0;
            for (boolean isFilled : filled) {
                if (isFilled) {
                    inUse++;
                }
            }
            return inUse;
        }
    }

    /** The present state and those before it. States change places, so that each row is used again. */
    private static final class History {
        final State[] earlier = new State[MOST_STATES];
        State now = new State();
        /** What was before the action that is under way. */
        State spare = new State();
        int size;

        History() {
            for (int i = 0; i < MOST_STATES; i++) {
                earlier[i] = new State();
            }
        }

        /** Goes ahead of each action, as only the action itself can tell whether it succeeds. */
        void prepare() {
            spare.copyFrom(now);
        }

        /** Records the prepared state if the action has succeeded; an action that failed has changed nothing. */
        int settle(int answer) {
            if (!isError(answer)) {
                recordSpare();
            }
            return answer;
        }

        private void recordSpare() {
            if (size >= MOST_STATES) {
                dropOldest();
            }
            if (within(size, 0, MOST_STATES - 1)) {
                State free = earlier[size];
                earlier[size] = spare;
                spare = free;
                size++;
            }
        }

        private void dropOldest() {
            State oldest = earlier[0];
            for (int i = 0; i < MOST_STATES - 1; i++) {
                earlier[i] = earlier[i + 1];
            }
            earlier[MOST_STATES - 1] = oldest;
            size = MOST_STATES - 1;
        }

        /** Goes back to what was prepared. */
        void abandon() {
            State left = now;
            now = spare;
            spare = left;
        }

        int stepBack() {
            int latest = size - 1;
            if (!within(latest, 0, MOST_STATES - 1)) {
                return ILLEGAL_STATE;
            }
            State left = now;
            now = earlier[latest];
            earlier[latest] = left;
            size = latest;
            return size;
        }
    }

    /** The latest failure of a program. */
    private static final class Failure {
        static final int GRAMMAR = 1;
        static final int ARGUMENT = 2;
        static final int OTHER = 3;

        /** 0 as long as there was no failure. */
        int kind;
        int place;
        int code;
        int commands;

        void note(int newPlace, int newCode, int newCommands) {
            place = newPlace;
            code = newCode;
            commands = newCommands;
            if (newCode == NONE) {
                kind = GRAMMAR;
            } else {
                kind = newCode == INVALID_ARGUMENT ? ARGUMENT : OTHER;
            }
        }

        int part(int what) {
            if (!within(what, 0, 4)) {
                return INVALID_ARGUMENT;
            }
            if (kind == 0) {
                return NONE;
            }
            switch (what) {
                case 0:
                    return kind;
                case 1:
                    return place;
                case 2:
                    return kind == GRAMMAR ? 1 : 2;
                case 3:
                    return code;
                default:
                    return commands;
            }
        }
    }

    /** The text, and its running as a program. */
    private static final class Program {
        static final int UNKNOWN = -1;
        static final int KIND = 0;
        static final int SCALE = 1;
        static final int RULE = 2;
        static final int COME = 3;
        static final int PRIZE = 4;
        static final int WEIGH = 5;
        static final int CLAIM = 6;
        static final int BUY = 7;
        static final int MOST_NUMBERS = 5;
        static final int MOST_DIGITS = 6;

        final char[] signs = new char[MOST_SIGNS];
        final int[] numbers = new int[MOST_NUMBERS];
        final Failure failure = new Failure();
        int length;
        /** The latest token that was read, empty at the text's end: from start to before at. */
        int start;
        int at;

        int addSign(int character) {
            if (!within(character, 1, 255)) {
                return INVALID_ARGUMENT;
            }
            if (!within(length, 0, MOST_SIGNS - 1)) {
                return CAPACITY_EXCEEDED;
            }
            signs[length] = (char) character;
            length++;
            return length;
        }

        int emptyText() {
            int previous = length;
            length = 0;
            return previous;
        }

        /** The number of commands, or FAILURE_BASE minus the place of a failure; what ran ahead of it is left to be undone. */
        int runOn(Counter counter) {
            at = 0;
            // Every command has signs of its own, so there are fewer commands than signs.
            for (int done = 0; done <= MOST_SIGNS; done++) {
                readToken();
                if (start >= length) {
                    return done;
                }
                int place = start;
                int command = commandHere();
                if (command == UNKNOWN || !readNumbers(numbersOf(command)) || !readEnd()) {
                    failure.note(start, NONE, done);
                    return FAILURE_BASE - start;
                }
                int answer = perform(command, counter);
                if (isError(answer)) {
                    failure.note(place, answer, done);
                    return FAILURE_BASE - place;
                }
            }
            return MOST_SIGNS;
        }

        private int perform(int command, Counter counter) {
            switch (command) {
                case KIND:
                    return counter.changeKind(numbers[0], numbers[1], numbers[2]);
                case SCALE:
                    return counter.changeScale(numbers[0], numbers[1]);
                case RULE:
                    return counter.changeRule(numbers[0]);
                case COME:
                    return counter.addCustomer(numbers[0]);
                case PRIZE:
                    return counter.placePrize(numbers[0], numbers[1], numbers[2], numbers[3], numbers[4]);
                case WEIGH:
                    return counter.weighBundle(numbers[0], numbers[1], numbers[2], 0);
                case CLAIM:
                    return counter.settleClaim(numbers[0], numbers[1]);
                default:
                    return counter.sellPrize(numbers[0], numbers[1], numbers[2]);
            }
        }

        private static int numbersOf(int command) {
            switch (command) {
                case RULE:
                case COME:
                    return 1;
                case SCALE:
                case CLAIM:
                    return 2;
                case PRIZE:
                    return 5;
                default:
                    return 3;
            }
        }

        private int commandHere() {
            if (spells("kind")) {
                return KIND;
            }
            if (spells("scale")) {
                return SCALE;
            }
            if (spells("rule")) {
                return RULE;
            }
            if (spells("come")) {
                return COME;
            }
            if (spells("prize")) {
                return PRIZE;
            }
            if (spells("weigh")) {
                return WEIGH;
            }
            if (spells("claim")) {
                return CLAIM;
            }
            return spells("buy") ? BUY : UNKNOWN;
        }

        private boolean spells(String word) {
            if (word.length() != at - start) {
                return false;
            }
            for (int i = 0; i < word.length(); i++) {
                if (word.charAt(i) != signAt(start + i)) {
                    return false;
                }
            }
            return true;
        }

        private boolean readNumbers(int needed) {
            for (int i = 0; i < MOST_NUMBERS && i < needed; i++) {
                readToken();
                if (!isNumber()) {
                    return false;
                }
                numbers[i] = value();
            }
            return true;
        }

        private boolean readEnd() {
            readToken();
            return signAt(start) == ';';
        }

        /** A token of digits has no other signs, so its first one tells. */
        private boolean isNumber() {
            int digits = at - start;
            if (!isDigit(signAt(start)) || digits > MOST_DIGITS) {
                return false;
            }
            return digits == 1 || signAt(start) != '0';
        }

        private int value() {
            int number = 0;
            for (int i = start; i < at; i++) {
                number = 10 * number + signAt(i) - '0';
            }
            return number;
        }

        private void readToken() {
            start = at;
            while (start < length && signAt(start) == ' ') {
                start++;
            }
            at = start;
            if (isLetter(signAt(start))) {
                while (at < length && isLetter(signAt(at))) {
                    at++;
                }
            } else if (isDigit(signAt(start))) {
                while (at < length && isDigit(signAt(at))) {
                    at++;
                }
            } else if (start < length) {
                at++;
            }
        }

        /** The sign at a place; beyond the text 0, which is no sign that can be appended. */
        private char signAt(int place) {
            if (place >= length || !within(place, 0, MOST_SIGNS - 1)) {
                return 0;
            }
            return signs[place];
        }

        private static boolean isLetter(char sign) {
            return sign >= 'a' && sign <= 'z';
        }

        private static boolean isDigit(char sign) {
            return sign >= '0' && sign <= '9';
        }
    }
}
