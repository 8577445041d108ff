import java.util.Arrays;

/** Promises 26 to 33: what readings allow, told also by going through all loads one by one. */
public final class ReadingsTest {
    private ReadingsTest() {
    }

    public static void main(String[] args) {
        promise26Read();
        promise26ReadsNearest();
        promise27Allowed();
        promise27AllowsWhatLoadsGive();
        promise28Guess();
        promise28GuessesNearest();
        promise29ApartUpTo();
        promise29ApartByLoads();
        promise30BestStep();
        promise30BestOfAllSteps();
        promise31Mixed();
        promise31MixedByLoads();
        promise32Would();
        promise33Fairest();
        nothingChanges();
        Due.end();
    }

    /** By going through multiples from below, the last of the nearest ones wins. */
    private static int nearest(int step, int load) {
        int best = 0;
        for (int multiple = 0; multiple <= load + step; multiple += step) {
            if (Math.abs(multiple - load) <= Math.abs(best - load)) {
                best = multiple;
            }
        }
        return best;
    }

    private static void promise26Read() {
        TicketScales x = new TicketScales();
        x.setScale(500, 200);
        x.setBias(200);
        int[][] due = {{749, 500}, {750, 1000}, {-300, 0}, {249, 0}, {250, 500}, {0, 0}, {-1, 0}, {-5000, 0},
            {-250, 0}, {-251, 0}, {3000000, 3000000}, {2999749, 2999500}, {500, 500},
            {-5001, Due.BAD}, {3000001, Due.BAD}, {Integer.MIN_VALUE, Due.BAD}, {Integer.MAX_VALUE, Due.BAD}};
        for (int[] row : due) {
            Due.due("read(" + row[0] + ")", x.read(row[0]), row[1]);
        }
        x.setScale(999, 0);
        Due.due("read(499)", x.read(499), 0);
        Due.due("read(500)", x.read(500), 999);
        Due.due("read(3000000)", x.read(3000000), 2999997);
        x.setScale(1, 0);
        Due.due("read(-1)", x.read(-1), 0);
        Due.due("read(2999999)", x.read(2999999), 2999999);
    }

    private static void promise26ReadsNearest() {
        for (int step = 1; step <= 12; step++) {
            TicketScales x = new TicketScales();
            x.setScale(step, 2000);
            for (int load = -20; load <= 60; load++) {
                Due.due("step " + step + ": read(" + load + ")", x.read(load), load < 0 ? 0 : nearest(step, load));
            }
        }
    }

    private static void promise27Allowed() {
        TicketScales x = new TicketScales();
        Due.due("least of 37200", x.allowed(37200, 0, 0), 37);
        Due.due("greatest of 37200", x.allowed(37200, 0, 1), 37);
        Due.due("number of 37200", x.allowed(37200, 0, 2), 1);
        Due.due("least of 37250", x.allowed(37250, 0, 0), Due.NONE);
        Due.due("greatest of 37250", x.allowed(37250, 0, 1), Due.NONE);
        Due.due("number of 37250", x.allowed(37250, 0, 2), 0);
        Due.due("least of 500", x.allowed(500, 0, 0), Due.NONE);
        Due.due("greatest of 500", x.allowed(500, 0, 1), Due.NONE);
        Due.due("number of 500", x.allowed(500, 0, 2), 0);
        Due.due("least of 0", x.allowed(0, 0, 0), 0);
        Due.due("greatest of 0", x.allowed(0, 0, 1), 0);
        Due.due("number of 0", x.allowed(0, 0, 2), 1);
        x.setKind(1, 100, 50);
        x.setScale(1000, 2000);
        Due.due("greatest of all", x.allowed(3000000, 1, 1), 60049);
        Due.due("least of 3000000", x.allowed(3000000, 1, 0), 19984);
        Due.due("least of 2000", x.allowed(2000, 1, 0), 0);
        Due.due("least of 3000", x.allowed(3000, 1, 0), 4);
        Due.due("greatest of 0", x.allowed(0, 1, 1), 49);
        int[][] bad = {{-1, 0, 0}, {3000001, 0, 0}, {0, -1, 0}, {0, 4, 0}, {0, 0, -1}, {0, 0, 3}, {37250, 0, 3},
            {Integer.MIN_VALUE, 0, 0}, {Integer.MAX_VALUE, 0, 2}, {0, Integer.MAX_VALUE, 0}};
        for (int[] row : bad) {
            Due.due("allowed(" + row[0] + ", " + row[1] + ", " + row[2] + ")", x.allowed(row[0], row[1], row[2]), Due.BAD);
        }
    }

    private static int[][] scales() {
        return new int[][] {{1, 0}, {2, 0}, {3, 1}, {7, 0}, {10, 10}, {99, 3}, {100, 50}, {100, 120}, {250, 0}, {333, 60}, {1000, 0}, {1000, 700}};
    }

    private static int[][] kinds() {
        return new int[][] {{100, 0}, {100, 1}, {100, 50}, {101, 13}, {150, 5}, {333, 20}, {700, 0}, {1000, 50}};
    }

    /** Goes through all loads of all counts, so that nothing has to be known about their order. */
    private static boolean[][] readBy(TicketScales x, int[] scale, int[] kind, int counts, int mostReading) {
        boolean[][] read = new boolean[mostReading + 1][counts];
        for (int count = 0; count < counts; count++) {
            int from = count * (kind[0] - kind[1]) - scale[1];
            int to = count * (kind[0] + kind[1]) + scale[1];
            for (int load = from; load <= to; load++) {
                int reading = load < 0 ? 0 : (load + scale[0] / 2) / scale[0] * scale[0];
                if (reading <= mostReading) {
                    read[reading][count] = true;
                }
            }
        }
        return read;
    }

    private static void promise27AllowsWhatLoadsGive() {
        for (int[] scale : scales()) {
            for (int[] kind : kinds()) {
                TicketScales x = new TicketScales();
                x.setScale(scale[0], scale[1]);
                x.setKind(2, kind[0], kind[1]);
                boolean[][] read = readBy(x, scale, kind, 80, 2000);
                int stride = scale[0] >= 99 ? Math.max(1, scale[0] / 2) : 13 * scale[0];
                for (int reading = 0; reading <= 2000; reading += stride) {
                    allowedBy(x, reading, read[reading], "scale " + Arrays.toString(scale) + ", kind " + Arrays.toString(kind));
                }
            }
        }
    }

    private static void allowedBy(TicketScales x, int reading, boolean[] counts, String where) {
        int least = Due.NONE;
        int greatest = Due.NONE;
        int number = 0;
        for (int count = 0; count < counts.length; count++) {
            if (counts[count]) {
                least = least == Due.NONE ? count : least;
                greatest = count;
                number++;
            }
        }
        Due.due(where + ": least of " + reading, x.allowed(reading, 2, 0), least);
        Due.due(where + ": greatest of " + reading, x.allowed(reading, 2, 1), greatest);
        Due.due(where + ": number of " + reading, x.allowed(reading, 2, 2), number);
    }

    private static void promise28Guess() {
        TicketScales x = new TicketScales();
        int[] due = {297, 295, 300, 297};
        for (int rule = 0; rule < 4; rule++) {
            Due.due("guess(297100, 0, " + rule + ")", x.guess(297100, 0, rule), due[rule]);
            Due.due("guess(297150, 0, " + rule + ")", x.guess(297150, 0, rule), Due.NONE);
            Due.due("guess(500, 0, " + rule + ")", x.guess(500, 0, rule), Due.NONE);
            Due.due("guess(0, 0, " + rule + ")", x.guess(0, 0, rule), 0);
        }
        x.setScale(1000, 500);
        // 1 and 2 tickets are equally near to 1500 if these weigh 1000, but 1500 is no multiple of 1000.
        x.setScale(500, 500);
        Due.due("equally near", x.guess(1500, 0, 0), 1);
        Due.due("the least of these", x.guess(1500, 0, 1), 1);
        Due.due("the greatest of these", x.guess(1500, 0, 2), 2);
        Due.due("the half is rounded down", x.guess(1500, 0, 3), 1);
        Due.due("guess(3000000, 3, 2)", x.guess(3000000, 3, 2), 3031);
        int[][] bad = {{-1, 0, 0}, {3000001, 0, 0}, {0, -1, 0}, {0, 4, 0}, {0, 0, -1}, {0, 0, 4}, {1, 0, 4},
            {Integer.MIN_VALUE, 0, 0}, {0, Integer.MIN_VALUE, 0}, {0, 0, Integer.MAX_VALUE}};
        for (int[] row : bad) {
            Due.due("guess(" + row[0] + ", " + row[1] + ", " + row[2] + ")", x.guess(row[0], row[1], row[2]), Due.BAD);
        }
    }

    private static void promise28GuessesNearest() {
        for (int[] scale : scales()) {
            for (int[] kind : kinds()) {
                TicketScales x = new TicketScales();
                x.setScale(scale[0], scale[1]);
                x.setKind(1, kind[0], kind[1]);
                for (int i = 0; i < 60; i++) {
                    int reading = i * (i < 30 ? 1 : 37) * scale[0];
                    guessedBy(x, reading, kind[0]);
                }
            }
        }
    }

    private static void guessedBy(TicketScales x, int reading, int weight) {
        int least = x.allowed(reading, 1, 0);
        int greatest = x.allowed(reading, 1, 1);
        int best = least;
        for (int count = least; count <= greatest; count++) {
            if (Math.abs(count * weight - reading) < Math.abs(best * weight - reading)) {
                best = count;
            }
        }
        Due.due("nearest to " + reading, x.guess(reading, 1, 0), best);
        Due.due("least of " + reading, x.guess(reading, 1, 1), least);
        Due.due("greatest of " + reading, x.guess(reading, 1, 2), greatest);
        Due.due("half of " + reading, x.guess(reading, 1, 3), least == Due.NONE ? Due.NONE : (least + greatest) / 2);
    }

    private static void promise29ApartUpTo() {
        TicketScales x = new TicketScales();
        Due.due("apartUpTo(0)", x.apartUpTo(0), 40);
        Due.due("apartUpTo(-1)", x.apartUpTo(-1), Due.BAD);
        Due.due("apartUpTo(4)", x.apartUpTo(4), Due.BAD);
        x.setScale(500, 200);
        Due.due("with a wide step", x.apartUpTo(0), 5);
        x.setScale(1000, 0);
        x.setKind(1, 100, 0);
        Due.due("none can be told apart from 0", x.apartUpTo(1), 0);
        x.setKind(2, 1000, 0);
        Due.due("at most 999", x.apartUpTo(2), 999);
        x.setScale(1, 2000);
        Due.due("a limit that is too wide", x.apartUpTo(1), 0);
        x.setScale(1, 0);
        // 990 times 999 is 989010, 1010 times 998 is 1007980.
        Due.due("apartUpTo(0) with the finest step", x.apartUpTo(0), 50);
        x.setKind(3, 999, 0);
        Due.due("far beyond the greatest reading", x.apartUpTo(3), 999);
        x.setKind(3, 5000, 0);
        Due.due("farther", x.apartUpTo(3), 999);
        x.setKind(3, 5000, 2);
        Due.due("farther with a spread", x.apartUpTo(3), 999);
        x.setKind(3, 5000, 3);
        Due.due("the spread tells", x.apartUpTo(3), 833);
        exactlyLast();
    }

    /** Counts n and n + 1 of this kind overlap first at n = 998, 999 and above, as the limit is chosen. */
    private static void exactlyLast() {
        TicketScales x = new TicketScales();
        x.setKind(0, 2000, 1);
        // 1999 (n + 1) - 2001 n - 2 limit is 1999 - 2 n - 2 limit: above 0 up to n = 999 - limit.
        for (int limit = 0; limit <= 3; limit++) {
            x.setScale(1, limit);
            Due.due("limit " + limit, x.apartUpTo(0), Math.min(999, 1000 - limit));
        }
    }

    private static void promise29ApartByLoads() {
        for (int[] scale : scales()) {
            for (int[] kind : kinds()) {
                TicketScales x = new TicketScales();
                x.setScale(scale[0], scale[1]);
                x.setKind(3, kind[0], kind[1]);
                String where = "scale " + Arrays.toString(scale) + ", kind " + Arrays.toString(kind);
                Due.due(where + ": apartUpTo", x.apartUpTo(3), apartByLoads(scale, kind));
            }
        }
    }

    private static int apartByLoads(int[] scale, int[] kind) {
        int[] owner = new int[1000 * (kind[0] + kind[1]) + 2 * scale[0] + 2000];
        Arrays.fill(owner, -1);
        for (int count = 0; count <= 999; count++) {
            int from = count * (kind[0] - kind[1]) - scale[1];
            int to = count * (kind[0] + kind[1]) + scale[1];
            for (int load = from; load <= to; load++) {
                int reading = load < 0 ? 0 : (load + scale[0] / 2) / scale[0] * scale[0];
                if (owner[reading] >= 0 && owner[reading] != count) {
                    return count - 1;
                }
                owner[reading] = count;
            }
        }
        return 999;
    }

    private static void promise30BestStep() {
        TicketScales x = new TicketScales();
        x.setScale(500, 200);
        Due.due("bestStep(0, 20)", x.bestStep(0, 20), 1000);
        Due.due("bestStep(0, 99)", x.bestStep(0, 99), Due.NONE);
        Due.due("bestStep(0, 0)", x.bestStep(0, 0), 1000);
        Due.due("bestStep(-1, 0)", x.bestStep(-1, 0), Due.BAD);
        Due.due("bestStep(4, 0)", x.bestStep(4, 0), Due.BAD);
        Due.due("bestStep(0, -1)", x.bestStep(0, -1), Due.BAD);
        Due.due("bestStep(0, 100)", x.bestStep(0, 100), Due.BAD);
        x.setKind(1, 100, 0);
        x.setScale(1, 50);
        Due.due("no step tells 0 from 1", x.bestStep(1, 1), Due.NONE);
        x.setScale(1, 49);
        // Half of 102 is 51, which is read as 102; half of 103 is more.
        Due.due("a step that splits them", x.bestStep(1, 1), 102);
        Due.due("the step stays", x.count(0), 1);
    }

    private static void promise30BestOfAllSteps() {
        int[][] tried = {{100, 0, 0, 9}, {150, 5, 3, 4}, {333, 20, 60, 3}, {1000, 10, 50, 30}, {1000, 10, 50, 41}, {700, 1, 0, 99}, {5000, 50, 0, 49}, {101, 13, 0, 3},
            {101, 13, 0, 4}, {101, 2, 21, 15}};
        for (int[] row : tried) {
            TicketScales x = new TicketScales();
            x.setKind(0, row[0], row[1]);
            x.setScale(77, row[2]);
            int best = x.bestStep(0, row[3]);
            int due = Due.NONE;
            TicketScales y = null;
            for (int step = 1; step <= 1000; step++) {
                if (step % 200 == 1) {
                    y = new TicketScales();
                    y.setKind(0, row[0], row[1]);
                }
                y.setScale(step, row[2]);
                due = y.apartUpTo(0) >= row[3] ? step : due;
            }
            Due.due("bestStep for " + Arrays.toString(row), best, due);
        }
    }

    private static void promise31Mixed() {
        TicketScales x = new TicketScales();
        x.setScale(500, 200);
        x.setKind(1, 1500, 5);
        Due.due("number", x.mixed(0, 1, 30000, 0), 31);
        Due.due("least", x.mixed(0, 1, 30000, 1), 20);
        Due.due("greatest", x.mixed(0, 1, 30000, 2), 30);
        Due.due("the other way round", x.mixed(1, 0, 30000, 0), 31);
        Due.due("none: number", x.mixed(0, 1, 30001, 0), 0);
        Due.due("none: least", x.mixed(0, 1, 30001, 1), Due.NONE);
        Due.due("none: greatest", x.mixed(0, 1, 30001, 2), Due.NONE);
        Due.due("nothing on the scale: number", x.mixed(0, 1, 0, 0), 1);
        Due.due("nothing on the scale: least", x.mixed(0, 1, 0, 1), 0);
        Due.due("nothing on the scale: greatest", x.mixed(0, 1, 0, 2), 0);
        Due.due("too much for 60", x.mixed(0, 1, 3000000, 0), 0);
        Due.due("60 of the heavier kind", x.mixed(0, 1, 90500, 1), 60);
        Due.due("more than 60 of the heavier kind", x.mixed(0, 1, 91000, 0), 0);
        int[][] bad = {{-1, 0, 0, 0}, {4, 0, 0, 0}, {0, -1, 0, 0}, {0, 4, 0, 0}, {0, 0, 5, 0}, {2, 2, 0, 0}, {0, 1, -1, 0},
            {0, 1, 3000001, 0}, {0, 1, 0, -1}, {0, 1, 0, 3}, {0, 1, 30001, 3}, {Integer.MAX_VALUE, 1, 0, 0}};
        for (int[] row : bad) {
            Due.due("mixed" + Arrays.toString(row), x.mixed(row[0], row[1], row[2], row[3]), Due.BAD);
        }
    }

    private static void promise31MixedByLoads() {
        int[][] tried = {{100, 50, 120, 3, 100, 50}, {100, 0, 150, 0, 7, 0}, {200, 1, 333, 20, 1000, 700}, {5000, 50, 100, 50, 99, 3}, {300, 10, 300, 10, 100, 0}};
        for (int[] row : tried) {
            TicketScales x = new TicketScales();
            x.setKind(3, row[0], row[1]);
            x.setKind(1, row[2], row[3]);
            x.setScale(row[4], row[5]);
            for (int i = 0; i < 120; i++) {
                mixedBy(x, row, (i < 40 ? i : i * i / 5) * row[4] + (i % 10 == 9 ? 1 : 0));
            }
        }
    }

    private static void mixedBy(TicketScales x, int[] row, int reading) {
        int pairs = 0;
        int least = Due.NONE;
        int greatest = Due.NONE;
        for (int ones = 0; ones <= 60; ones++) {
            for (int others = 0; ones + others <= 60; others++) {
                int from = ones * (row[0] - row[1]) + others * (row[2] - row[3]) - row[5];
                int to = ones * (row[0] + row[1]) + others * (row[2] + row[3]) + row[5];
                if (shows(row[4], from, to, reading)) {
                    pairs++;
                    least = least == Due.NONE ? ones + others : Math.min(least, ones + others);
                    greatest = Math.max(greatest, ones + others);
                }
            }
        }
        String where = "mixed of " + reading + " with " + Arrays.toString(row);
        Due.due(where + ": number", x.mixed(3, 1, reading, 0), pairs);
        Due.due(where + ": least", x.mixed(3, 1, reading, 1), least);
        Due.due(where + ": greatest", x.mixed(3, 1, reading, 2), greatest);
    }

    private static boolean shows(int step, int from, int to, int reading) {
        if (to < reading - step || from > reading + step) {
            return false;
        }
        for (int load = from; load <= to; load++) {
            if ((load < 0 ? 0 : (load + step / 2) / step * step) == reading) {
                return true;
            }
        }
        return false;
    }

    private static void promise32Would() {
        TicketScales x = new TicketScales();
        for (int rule = 0; rule < 4; rule++) {
            Due.due("nothing kept: would(" + rule + ")", x.would(rule), 100000);
        }
        x.come(0);
        x.come(0);
        x.come(0);
        x.weigh(0, 0, 300, -2900);
        int[] one = {99997, 99995, 100000, 99997};
        int[] two = {99999, 99995, 100004, 99999};
        for (int rule = 0; rule < 4; rule++) {
            Due.due("would(" + rule + ")", x.would(rule), one[rule]);
        }
        x.weigh(2, 1, 200, 2000);
        for (int rule = 0; rule < 4; rule++) {
            Due.due("two kept: would(" + rule + ")", x.would(rule), two[rule]);
        }
        Due.due("would(-1)", x.would(-1), Due.BAD);
        Due.due("would(4)", x.would(4), Due.BAD);
        x.setKind(1, 2000, 0);
        Due.due("by the kind as it is now", x.would(2), 100000 + 0 - 99);
        x.setScale(77, 50);
        for (int rule = 0; rule < 4; rule++) {
            Due.due("by the scale as it is now: would(" + rule + ")", x.would(rule), Due.NONE);
        }
        Due.due("out of range goes ahead", x.would(4), Due.BAD);
        x.leave(2);
        Due.due("still one that is not allowed", x.would(0), Due.NONE);
        x.leave(0);
        Due.due("none kept again", x.would(0), 100000);
    }

    private static void promise33Fairest() {
        TicketScales x = new TicketScales();
        Due.due("nothing kept", x.fairest(), 0);
        x.come(0);
        x.come(0);
        x.weigh(0, 0, 300, -2900);
        Due.due("the greatest one is true", x.fairest(), 2);
        x.weigh(0, 0, 300, 2900);
        Due.due("the least one is nearest", x.fairest(), fairestBy(x));
        Due.due("the least one", x.fairest(), 1);
        x.weigh(0, 0, 300, 0);
        Due.due("the smallest number of several", x.fairest(), 0);
        x.setKind(0, 1000, 50);
        x.weigh(0, 0, 300, 4000);
        Due.due("of many", x.fairest(), fairestBy(x));
        x.setKind(2, 110, 49);
        x.weigh(1, 2, 300, 0);
        Due.due("of more", x.fairest(), fairestBy(x));
        x.setScale(7, 0);
        Due.due("none is allowed", x.fairest(), Due.NONE);
        middleIsFairest();
    }

    /** The spread is lopsided in its counts, so the middle one lies beside the nearest one. */
    private static void middleIsFairest() {
        TicketScales x = new TicketScales();
        x.come(0);
        x.setKind(0, 100, 50);
        boolean met = false;
        for (int deviation = -4500; deviation <= 0; deviation += 50) {
            x.weigh(0, 0, 100, deviation);
            int due = fairestBy(x);
            met = met || due == 3;
            Due.due("fairest with " + deviation, x.fairest(), due);
        }
        Due.isTrue("rule 3 was the fairest one", met);
    }

    private static int fairestBy(TicketScales x) {
        int best = 3;
        for (int rule = 2; rule >= 0; rule--) {
            if (Math.abs(x.would(rule) - 100000) <= Math.abs(x.would(best) - 100000)) {
                best = rule;
            }
        }
        return best;
    }

    private static void nothingChanges() {
        TicketScales x = new TicketScales();
        x.come(3);
        x.weigh(0, 0, 300, -2900);
        x.read(5);
        x.allowed(100, 0, 0);
        x.guess(100, 0, 1);
        x.apartUpTo(0);
        x.bestStep(0, 5);
        x.mixed(0, 1, 100, 0);
        x.would(1);
        x.fairest();
        int[] due = {100, 50, 0, 0, 5, 1, 0, 1, -3, 300, 0, 0, 2, 0};
        for (int what = 0; what < due.length; what++) {
            Due.due("count(" + what + ")", x.count(what), due[what]);
        }
    }
}
