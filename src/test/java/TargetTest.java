/** Promises 23 to 28: gain, utility, monitored, target, movesLeft, totalUtility. */
final class TargetTest {
    public static void main(String[] args) {
        gains();
        lists();
        utilities();
        targetsOfGreatestRate();
        targetsOfEqualRates();
        targetsOfFractions();
        targetsWithoutRates();
        movesAndTotals();
        Checks.end("TargetTest");
    }

    private static void gains() {
        CountedCache x = new CountedCache();
        Checks.giveGain(x, 1, 3, 5);
        Checks.due("gain(1, 3)", x.gain(1, 3), 5);
        Checks.due("gain(1, 2)", x.gain(1, 2), 0);
        Checks.due("gain(0, 3)", x.gain(0, 3), 0);
        x.access(1, 2);
        x.access(1, 2);
        x.access(1, 0);
        x.access(1, 0);
        Checks.due("gain(1, 0) of both lists together", x.gain(1, 0), 2);
        x.access(1, 1);
        x.access(1, 1);
        x.access(1, 3);
        x.access(1, 3);
        Checks.due("gain(1, 0): sets 1 and 3 are not sampled", x.gain(1, 0), 2);
        CountedCache y = new CountedCache();
        y.stream(0, 0, 4, 8);
        y.access(0, 0);
        Checks.due("gain(0, 7)", y.gain(0, 7), 1);
        y.access(0, 32);
        y.access(0, 4);
        Checks.due("gain: the ninth address has left the list", y.gain(0, 7), 1);
    }

    private static void lists() {
        CountedCache x = new CountedCache();
        x.stream(0, 0, 2, 6);
        Checks.due("monitored(0, 0, 0)", x.monitored(0, 0, 0), 8);
        Checks.due("monitored(0, 0, 2)", x.monitored(0, 0, 2), 0);
        Checks.due("monitored(0, 0, 3)", x.monitored(0, 0, 3), -1);
        Checks.due("monitored(0, 2, 1)", x.monitored(0, 2, 1), 6);
        Checks.due("monitored(1, 0, 0)", x.monitored(1, 0, 0), -1);
        x.access(0, 0);
        Checks.due("monitored(0, 0, 0) of one moved to the front", x.monitored(0, 0, 0), 0);
        Checks.due("monitored(0, 0, 1)", x.monitored(0, 0, 1), 8);
        Checks.due("monitored(0, 0, 2) after it", x.monitored(0, 0, 2), 4);
        x.stream(0, 12, 4, 6);
        Checks.due("monitored(0, 0, 7)", x.monitored(0, 0, 7), 8);
        Checks.due("monitored(0, 0, 6)", x.monitored(0, 0, 6), 0);
        Checks.due("monitored(0, 0, 5)", x.monitored(0, 0, 5), 12);
        x.access(0, 12);
        Checks.due("monitored(0, 0, 5) after the move of 12", x.monitored(0, 0, 5), 16);
        Checks.due("monitored(0, 0, 6) after the move of 12", x.monitored(0, 0, 6), 0);
    }

    private static void utilities() {
        CountedCache x = new CountedCache();
        Checks.giveGain(x, 2, 1, 3);
        Checks.giveGain(x, 2, 7, 4);
        Checks.due("utility(2, 0)", x.utility(2, 0), 0);
        Checks.due("utility(2, 1)", x.utility(2, 1), 0);
        Checks.due("utility(2, 2)", x.utility(2, 2), 3);
        Checks.due("utility(2, 7)", x.utility(2, 7), 3);
        Checks.due("utility(2, 8)", x.utility(2, 8), 7);
        Checks.due("utility(0, 8)", x.utility(0, 8), 0);
    }

    private static void targets(String of, CountedCache x, int t0, int t1, int t2, int t3) {
        Checks.due(of + ": target(0)", x.target(0), t0);
        Checks.due(of + ": target(1)", x.target(1), t1);
        Checks.due(of + ": target(2)", x.target(2), t2);
        Checks.due(of + ": target(3)", x.target(3), t3);
    }

    private static void targetsOfGreatestRate() {
        CountedCache x = new CountedCache();
        Checks.giveGain(x, 3, 3, 12);
        // tenant 3: 12 for 3 ways more than its least 1; the rest is 1 then
        targets("one gain", x, 2, 1, 1, 4);
        Checks.giveGain(x, 1, 1, 2);
        // 12 / 3 first, then 2 / 1 with the last of the rest
        targets("two gains", x, 1, 2, 1, 4);
        Checks.giveGain(x, 2, 2, 30);
        // tenant 2 takes 2 at the rate 15; of the rest 2 tenant 1 takes 1, and 12 / 3 is out of reach
        targets("three gains", x, 2, 2, 3, 1);
        x.setLeast(3, 2);
        // tenant 3 has 12 / 2 now, but after tenant 2 only 1 of the rest is left
        targets("more least ways", x, 1, 2, 3, 2);
        x.setLeast(0, 0);
        targets("a rest of 4", x, 0, 1, 3, 4);
    }

    private static void targetsOfEqualRates() {
        CountedCache x = new CountedCache();
        Checks.giveGain(x, 1, 4, 8);
        Checks.giveGain(x, 2, 2, 4);
        // 8 / 4 of tenant 1 and 4 / 2 of tenant 2: the lower tenant, though its k is greater
        targets("equal rates", x, 1, 5, 1, 1);
        CountedCache y = new CountedCache();
        Checks.giveGain(y, 0, 1, 3);
        Checks.giveGain(y, 0, 2, 3);
        Checks.giveGain(y, 3, 1, 3);
        y.setLeast(1, 2);
        y.setLeast(2, 2);
        // the rest is 2: tenant 0 has the rate 3 for k 1 and k 2, and takes 1, then the other
        targets("equal k", y, 3, 2, 2, 1);
        CountedCache z = new CountedCache();
        Checks.giveGain(z, 0, 1, 2);
        Checks.giveGain(z, 0, 3, 4);
        Checks.giveGain(z, 2, 1, 5);
        // 5 / 1 first; of the rest 3 tenant 0 has 2 / 1, 2 / 2 and 6 / 3: the least k of equal rates, then 4 / 2
        targets("the least k", z, 4, 1, 2, 1);
        z.setLeast(3, 2);
        // of the rest 2 tenant 0 takes 1, and the lowest target gets the last
        targets("the least k, cut off", z, 2, 2, 2, 2);
    }

    private static void targetsOfFractions() {
        CountedCache x = new CountedCache();
        Checks.giveGain(x, 0, 3, 7);
        Checks.giveGain(x, 1, 2, 5);
        // 7 / 3 is less than 5 / 2, though both are 2 rounded down; 7 / 3 is out of reach then
        targets("fractions", x, 2, 3, 2, 1);
        CountedCache y = new CountedCache();
        Checks.giveGain(y, 0, 3, 8);
        Checks.giveGain(y, 1, 2, 5);
        // 8 / 3 is more than 5 / 2; the rest is 1 then
        targets("more fractions", y, 4, 2, 1, 1);
    }

    private static void targetsWithoutRates() {
        CountedCache x = new CountedCache();
        x.setLeast(0, 0);
        x.setLeast(2, 2);
        // the rest is 4: to 0, then to 0 again (equal to 1 and 3), to 1, to 3
        targets("no rates", x, 2, 2, 2, 2);
        x.setLeast(1, 2);
        x.setLeast(3, 2);
        targets("no rates, a rest of 2", x, 2, 2, 2, 2);
        Checks.giveGain(x, 1, 2, 1);
        targets("one rate, a rest of 2", x, 1, 3, 2, 2);
        x.setLeast(0, 2);
        targets("no rest", x, 2, 2, 2, 2);
        CountedCache y = new CountedCache();
        for (int t = 0; t < 4; t++) {
            y.setLeast(t, 0);
        }
        Checks.giveGain(y, 3, 7, 1);
        targets("all ways for one", y, 0, 0, 0, 8);
        Checks.giveGain(y, 2, 0, 1);
        // tenant 2 takes 1; 7 ways are left, and tenant 3 has no rate then
        targets("all but one way", y, 2, 2, 2, 2);
    }

    private static void movesAndTotals() {
        CountedCache x = new CountedCache();
        Checks.giveGain(x, 3, 3, 12);
        Checks.due("movesLeft()", x.movesLeft(), 2);
        Checks.due("totalUtility()", x.totalUtility(), 0);
        x.moveWay();
        Checks.due("movesLeft() after a move", x.movesLeft(), 1);
        x.moveWay();
        Checks.due("movesLeft() after two moves", x.movesLeft(), 0);
        Checks.due("totalUtility() after two moves", x.totalUtility(), 12);
        Checks.giveGain(x, 0, 0, 5);
        Checks.due("totalUtility() of two tenants", x.totalUtility(), 17);
        CountedCache y = new CountedCache();
        for (int way = 0; way < 8; way++) {
            y.giveWay(way, 1);
        }
        Checks.due("movesLeft() of three deficits", y.movesLeft(), 6);
        Checks.giveGain(y, 2, 0, 9);
        Checks.due("totalUtility() of a tenant without ways", y.totalUtility(), 0);
    }
}
