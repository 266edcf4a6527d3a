import java.math.BigInteger;
import java.util.Random;

/** All promises together: seeded runs of 512 calls beside a model that lets single ticks pass. */
public final class LongRunsTest {
    private static final int RUNS = 400;
    private static final int CALLS = 512;

    private final Checks checks = new Checks();
    private Random random;
    private DayDesk desk;
    private Model model;

    public static void main(String[] args) {
        LongRunsTest test = new LongRunsTest();
        for (int run = 0; run < RUNS; run++) {
            test.run(run);
        }
        test.checks.end();
    }

    private void run(int seed) {
        random = new Random(seed);
        desk = new DayDesk();
        model = new Model();
        for (int call = 0; call < CALLS; call++) {
            oneCall("run " + seed + ", call " + call + ": ");
        }
    }

    private void oneCall(String when) {
        int position = pick(-1, 0, 1, 2, 198, 199, 200, 3, 4, 5);
        switch (random.nextInt(12)) {
            case 0: checks.due(when + "pass()", desk.pass(), model.pass()); break;
            case 1: skip(when, pick(1, 49, 50, 99, 100, 150, 1 + random.nextInt(3000), 0, -1, 100001, 100000)); break;
            case 2: may(when, random.nextInt(17) - 1, random.nextInt(12) - 1, random.nextBoolean()); break;
            case 3: may(when, 5, random.nextInt(12) - 1, random.nextBoolean()); break;
            case 4: look(when, random.nextInt(7) - 1); break;
            case 5: case 6: case 7: move(when, position, amount()); break;
            case 8: row(when, position, random.nextInt(7) - 1); break;
            case 9: checks.due(when + "isTold(" + position + ")", desk.isTold(position), model.isTold(position)); break;
            case 10: checks.due(when + "write(" + position + ")", desk.write(position), model.write(position)); break;
            default: at(when, random.nextInt(90) - 2); break;
        }
    }

    private int pick(int... from) {
        return from[random.nextInt(from.length)];
    }

    private long amount() {
        long[] from = {0, 1, -1, 10_000_000_000_000_000L, -10_000_000_000_000_000L, 10_000_000_000_000_001L,
            -10_000_000_000_000_001L, random.nextInt(100000), -random.nextInt(100000), random.nextLong()};
        return from[random.nextInt(from.length)];
    }

    private void skip(String when, int n) {
        checks.due(when + "skip(" + n + ")", desk.skip(n), model.skip(n));
    }

    private void may(String when, int kind, int priority, boolean money) {
        checks.due(when + "may(" + kind + ", " + priority + ", " + money + ")",
                desk.may(kind, priority, money), model.may(kind, priority, money));
    }

    private void look(String when, int what) {
        checks.due(when + "look(" + what + ")", desk.look(what), model.look(what));
    }

    private void move(String when, int position, long v) {
        checks.due(when + "move(" + position + ", " + v + ")", desk.move(position, v), model.move(position, v));
    }

    private void row(String when, int position, int what) {
        checks.due(when + "row(" + position + ", " + what + ")", desk.row(position, what), model.row(position, what));
    }

    private void at(String when, int i) {
        checks.due(when + "at(" + i + ")", desk.at(i), model.at(i));
    }

    /** The document read as slowly as it can be: every tick passes by itself, every sum is exact. */
    private static final class Model {
        private static final BigInteger MOST = BigInteger.TEN.pow(18).multiply(BigInteger.valueOf(9));

        private long time = 0;
        private final BigInteger[][] statements = new BigInteger[200][5];
        private String line = "";

        Model() {
            for (BigInteger[] statement : statements) {
                java.util.Arrays.fill(statement, BigInteger.ZERO);
            }
        }

        private int tick() {
            return (int) (time % 1000);
        }

        private static int phase(int tick) {
            return tick < 100 ? 0 : tick < 700 ? 1 : tick < 800 ? 2 : tick < 900 ? 3 : 4;
        }

        private static boolean resolves(int tick) {
            return tick % 50 == 0 && tick > 100 && tick < 901;
        }

        int pass() {
            time++;
            if (tick() == 0) {
                for (BigInteger[] statement : statements) {
                    BigInteger now = statement[3];
                    java.util.Arrays.fill(statement, BigInteger.ZERO);
                    statement[0] = now;
                    statement[3] = now;
                }
            }
            return (resolves(tick()) ? 1 : 0) + (tick() == 900 ? 2 : 0) + (tick() == 0 ? 4 : 0);
        }

        int skip(int n) {
            if (n < 1 || n > 100000) return -1;
            int resolved = 0;
            for (int i = 0; i < n; i++) resolved += pass() % 2;
            return resolved;
        }

        boolean may(int kind, int priority, boolean money) {
            String[] names = {"NEW", "AST", "PRC", "ISS", "RED", "PAY", "CNF", "CAN", "PRI", "LIM", "UNL", "PLG", "UNP", "RES", "STM"};
            if (kind < 0 || kind >= names.length) return false;
            switch (phase(tick())) {
                case 0: return !"ISS, RED, PAY, CNF, RES".contains(names[kind]);
                case 2: return !(names[kind].equals("PAY") && priority > 4);
                case 3: return !(names[kind].equals("PAY") && !money);
                case 4: return !"ISS, RED, PAY, CNF, CAN, PRI, RES".contains(names[kind]);
                default: return true;
            }
        }

        int look(int what) {
            int n = 1;
            switch (what) {
                case 0: return (int) (time / 1000);
                case 1: return tick();
                case 2: return phase(tick());
                case 3:
                    while (!resolves((tick() + n) % 1000)) n++;
                    return n;
                case 4:
                    while (phase((tick() + n) % 1000) == phase(tick())) n++;
                    return n;
                default: return -1;
            }
        }

        private static boolean isPosition(int position) {
            return position >= 0 && position < 200;
        }

        int move(int position, long v) {
            BigInteger by = BigInteger.valueOf(v);
            if (!isPosition(position) || by.abs().compareTo(BigInteger.TEN.pow(16)) > 0) return -1;
            if (v == 0) return 0;
            BigInteger[] statement = statements[position].clone();
            int direction = v < 0 ? 1 : 2;
            statement[direction] = statement[direction].add(by.abs());
            statement[3] = statement[3].add(by);
            statement[4] = statement[4].add(BigInteger.ONE);
            for (int what = 1; what < 4; what++) {
                if (statement[what].abs().compareTo(MOST) > 0) return -1;
            }
            statements[position] = statement;
            return 1;
        }

        long row(int position, int what) {
            return isPosition(position) && what >= 0 && what < 5 ? statements[position][what].longValueExact() : 0;
        }

        boolean isTold(int position) {
            return row(position, 0) != 0 || row(position, 4) != 0;
        }

        int write(int position) {
            if (!isPosition(position)) return -1;
            BigInteger[] s = statements[position];
            line = s[0] + " " + s[1] + " " + s[2] + " " + s[3] + " " + s[4];
            return line.length();
        }

        int at(int i) {
            return i >= 0 && i < line.length() ? line.charAt(i) : -1;
        }
    }
}
