import java.math.BigInteger;
import java.util.ArrayDeque;
import java.util.ArrayList;
import java.util.Arrays;
import java.util.Deque;
import java.util.List;
import java.util.Random;
import java.util.function.IntPredicate;
import java.util.regex.Matcher;
import java.util.regex.Pattern;

/** Long runs of calls, right and wrong ones, beside a second reading of the document that shares no code. */
public final class RandomRunsTest {
    /** An object is good for 512 calls: these, and the twelve at the end. */
    private static final int RUNS = 3000, CALLS = 500;

    public static void main(String[] args) {
        for (int run = 0; run < RUNS && Check.wrongSoFar() == 0; run++) {
            one(new Random(7000 + run), run);
        }
        Check.end();
    }

    private static void one(Random random, int run) {
        SaintHill x = new SaintHill();
        Second y = new Second();
        StringBuilder told = new StringBuilder();
        Deque<int[]> waiting = new ArrayDeque<>();
        for (int k = 0; k < CALLS && Check.wrongSoFar() == 0; k++) {
            if (waiting.isEmpty()) {
                plan(random, y, k, waiting);
            }
            int[] call = waiting.poll();
            told.append(' ').append(Arrays.toString(call));
            int got = ByNumber.answer(x, call);
            int want = y.answer(call);
            if (got != want) {
                Check.due("run " + run + ", the last of" + told, got, want);
            }
        }
        String end = "run " + run + ", at the end of" + told;
        for (int what = 0; what <= 9 && Check.wrongSoFar() == 0; what++) {
            Check.due(end + ", count " + what, x.count(what), y.count(what));
        }
        Check.due(end + ", status", x.status(), y.status);
        Check.due(end + ", fault", x.fault(), y.fault);
    }

    /** Puts what comes next: mostly one call, now and then several that only together tell something. */
    private static void plan(Random random, Second y, int sofar, Deque<int[]> waiting) {
        int dice = random.nextInt(sofar < 3 ? 2 : 60);
        if (dice == 0) {
            for (char letter : text(random).toCharArray()) {
                waiting.add(new int[] {4, letter});
            }
            waiting.add(new int[] {5});
        } else if (dice == 2 && y.now != null) {
            guesses(random, y.now, waiting);
        } else if (dice == 3) {
            asks(random, waiting);
        } else if (dice == 4 && random.nextInt(30) == 0) {
            lastYears(random, waiting);
        } else {
            waiting.add(call(random));
        }
    }

    /** A row that tells what comes, or nearly so, and what it was by which it comes. */
    private static void guesses(Random random, Slope now, Deque<int[]> waiting) {
        int n = 1 + random.nextInt(16);
        int from = random.nextInt(3);
        boolean holds = random.nextInt(3) > 0;
        waiting.add(new int[] {0, 1, random.nextInt(3), from + n});
        for (int k = 0; k < n; k++) {
            int rests = now.later(k).go().house;
            waiting.add(new int[] {1, 1, from + k, holds || random.nextInt(n) > 0 ? rests : random.nextInt(8) - 2});
        }
        for (int what = 0; what < 4; what++) {
            waiting.add(new int[] {25, 1, from, n, what});
        }
        for (int house = 0; house < now.homes.size(); house++) {
            waiting.add(new int[] {26, house, 1, from, n});
        }
    }

    private static void asks(Random random, Deque<int[]> waiting) {
        waiting.add(new int[] {33, random.nextInt(6), random.nextInt(2)});
        for (int i = 0; i < 8; i++) {
            waiting.add(new int[] {34, i});
        }
    }

    /** Time goes on till near the last YEAR that there is, and tries to go beyond. */
    private static void lastYears(Random random, Deque<int[]> waiting) {
        for (int k = 0; k < 41; k++) {
            waiting.add(new int[] {7, 24});
        }
        for (int k = 0; k < 12; k++) {
            waiting.add(new int[] {7, 1 + random.nextInt(8)});
            waiting.add(new int[] {35, 3});
        }
        waiting.add(new int[] {14, random.nextInt(61)});
    }

    private static String text(Random random) {
        StringBuilder text = new StringBuilder("c");
        int tiers = 2 + random.nextInt(random.nextBoolean() ? 3 : 8);
        text.append(tiers).append(',').append(random.nextInt(7)).append(',').append(random.nextInt(7)).append(',');
        text.append(1 + random.nextInt(random.nextBoolean() ? 3 : 9)).append(',').append(random.nextInt(3));
        text.append(',').append(1 + random.nextInt(9)).append(';');
        int houses = random.nextInt(3) == 0 ? random.nextInt(8) : 6;
        int[] cells = random.ints(0, 7 * tiers).distinct().limit(houses).toArray();
        for (int cell : cells) {
            int any = random.nextInt(50) == 0 ? random.nextInt(7 * tiers) : cell;
            text.append("dpmwuddpdd".charAt(random.nextInt(10))).append(1 + any / 7).append(',');
            text.append(any % 7).append(',').append(random.nextInt(2)).append(';');
        }
        if (random.nextInt(6) == 0) {
            int where = random.nextInt(text.length());
            String any = "cdpmwuxz0123456789,; C:/";
            switch (random.nextInt(3)) {
                case 0 -> text.setCharAt(where, any.charAt(random.nextInt(any.length())));
                case 1 -> text.deleteCharAt(where);
                default -> text.insert(where, any.charAt(random.nextInt(any.length())));
            }
        }
        return text.substring(0, Math.min(text.length(), 100));
    }

    /** Mostly right numbers, now and then one beside them. */
    private static int near(Random random, int least, int most) {
        int dice = random.nextInt(60);
        if (dice == 0) {
            return random.nextInt();
        }
        if (dice < 3) {
            return least - 1;
        }
        if (dice < 5) {
            return most + 1;
        }
        return least + random.nextInt(most - least + 1);
    }

    private static int[] call(Random random) {
        int which = random.nextInt(42);
        int house = near(random, 0, 2 + random.nextInt(4));
        int row = near(random, 0, 2);
        int d = near(random, 0, 60);
        return switch (which) {
            case 0 -> new int[] {0, row, near(random, 0, 2), near(random, 0, 40)};
            case 1 -> new int[] {1, row, near(random, 0, 20), random.nextBoolean() ? near(random, -1, 5) : random.nextInt()};
            case 2 -> new int[] {2, row, near(random, 0, 9), near(random, 0, 2), near(random, 0, 9), near(random, 0, 9)};
            case 3 -> random.nextInt(5) == 0 ? new int[] {3, row} : new int[] {1, row, near(random, 0, 5), -1};
            case 4 -> random.nextInt(30) == 0 ? new int[] {4, near(random, 0, 255)} : new int[] {18, house};
            case 5 -> random.nextInt(30) == 0 ? new int[] {5} : new int[] {15, d};
            case 6 -> new int[] {6};
            case 35, 36 -> new int[] {0, row, near(random, 0, 2), 5 + near(random, 0, 20)};
            case 7 -> new int[] {7, near(random, 1, random.nextBoolean() ? 3 : 24)};
            case 8 -> new int[] {8, house, near(random, 0, 1)};
            case 9 -> new int[] {9, house, near(random, 1, 9), near(random, 0, 6)};
            case 10 -> new int[] {10, near(random, 1, 9)};
            case 11 -> new int[] {11};
            case 12 -> new int[] {12, house, near(random, 0, 4)};
            case 13 -> new int[] {13, near(random, 1, 9), near(random, 0, 6)};
            case 14, 15 -> new int[] {14, d};
            case 16 -> new int[] {15, d};
            case 17 -> new int[] {16, near(random, 0, random.nextBoolean() ? 4 : 9), d};
            case 18 -> new int[] {17, d};
            case 19 -> new int[] {19, house, near(random, 1, 60)};
            case 20 -> new int[] {20, house, d, near(random, 0, 1)};
            case 21 -> new int[] {21, near(random, 0, 63), d, near(random, 0, 1)};
            case 22 -> new int[] {22, house, near(random, 1, 20), near(random, 0, 2)};
            case 23 -> new int[] {23};
            case 24 -> new int[] {24, near(random, 0, 1)};
            case 25 -> new int[] {25, row, near(random, 0, 3), near(random, 1, random.nextBoolean() ? 2 : 16), near(random, 0, 3)};
            case 26 -> new int[] {26, house, row, near(random, 0, 3), near(random, 1, random.nextBoolean() ? 2 : 16)};
            case 27 -> new int[] {27, house, near(random, 0, 10), near(random, 0, 1)};
            case 28 -> new int[] {28, near(random, 0, 60), near(random, 1, 999999), near(random, 0, 1)};
            case 29 -> new int[] {29, near(random, 0, 1)};
            case 30 -> random.nextInt(4) == 0 ? new int[] {30, near(random, 0, 1)} : new int[] {18, house};
            case 31 -> new int[] {31, house};
            case 32 -> new int[] {32, house, near(random, 0, 5)};
            case 33 -> new int[] {33, house, near(random, 0, 1)};
            case 34 -> new int[] {34, near(random, 0, 6)};
            case 37 -> new int[] {36};
            default -> new int[] {35, near(random, 0, 9)};
        };
    }

    /** The calls by number. */
    private static final class ByNumber {
        static int answer(SaintHill x, int[] c) {
            return switch (c[0]) {
                case 0 -> x.row(c[1], c[2], c[3]);
                case 1 -> x.set(c[1], c[2], c[3]);
                case 2 -> x.copy(c[1], c[2], c[3], c[4], c[5]);
                case 3 -> x.drop(c[1]);
                case 4 -> x.feed(c[1]);
                case 5 -> x.hill();
                case 6 -> x.fault();
                case 7 -> x.years(c[1]);
                case 8 -> x.door(c[1], c[2]);
                case 9 -> x.build(c[1], c[2], c[3]);
                case 10 -> x.speed(c[1]);
                case 11 -> x.undo();
                case 12 -> x.house(c[1], c[2]);
                case 13 -> x.at(c[1], c[2]);
                case 14, 15 -> x.rests(c[1]);
                case 16 -> x.line(c[1], c[2]);
                case 17 -> x.left(c[1]);
                case 18 -> x.next(c[1]);
                case 19 -> x.often(c[1], c[2]);
                case 20 -> x.aim(c[1], c[2], c[3]);
                case 21 -> x.shun(c[1], c[2], c[3]);
                case 22 -> x.site(c[1], c[2], c[3]);
                case 23 -> x.sulks();
                case 24 -> x.peace(c[1]);
                case 25 -> x.rolls(c[1], c[2], c[3], c[4]);
                case 26 -> x.sorts(c[1], c[2], c[3], c[4]);
                case 27 -> x.play(c[1], c[2], c[3]);
                case 28 -> x.drawn(c[1], c[2], c[3]);
                case 29 -> x.image(c[1]);
                case 30 -> x.restore(c[1]);
                case 31 -> x.kind(c[1]);
                case 32 -> x.as(c[1], c[2]);
                case 33 -> x.ask(c[1], c[2]);
                case 34 -> x.trace(c[1]);
                case 35 -> x.count(c[1]);
                default -> x.status();
            };
        }
    }

    private record Home(char sort, int tier, int line, boolean wants, boolean open, int got) {
        Home turned() {
            return new Home(sort, tier, line, wants, !open, got);
        }

        Home gladder() {
            return new Home(sort, tier, line, wants, open, got + 1);
        }

        Home moved(int newTier, int newLine) {
            return new Home(sort, newTier, newLine, wants, open, got);
        }

        Home of(char newSort) {
            return new Home(newSort, tier, line, wants, open, got);
        }
    }

    private record End(int house, int speed, List<Integer> lines) { }

    /** Never changed, so that undoing, images and foretelling are no more than keeping one. */
    private record Slope(int tiers, int start, int drift, int speed, int tend, int every, int year, List<Home> homes) {
        Slope with(int home, Home other) {
            List<Home> list = new ArrayList<>(homes);
            list.set(home, other);
            return new Slope(tiers, start, drift, speed, tend, every, year, List.copyOf(list));
        }

        Slope law(int newStart, int newDrift, int newSpeed, int newTend) {
            return new Slope(tiers, newStart, newDrift, newSpeed, newTend, every, year, homes);
        }

        Slope later(int years) {
            return new Slope(tiers, start, drift, speed, tend, every, year + years, homes);
        }

        Slope turned(int bits) {
            Slope s = this;
            for (int i = 0; i < homes.size(); i++) {
                if ((bits & 1 << i) != 0) {
                    s = s.with(i, s.homes.get(i).turned());
                }
            }
            return s;
        }

        int open() {
            int bits = 0;
            for (int i = 0; i < homes.size(); i++) {
                bits += homes.get(i).open ? 1 << i : 0;
            }
            return bits;
        }

        int top() {
            return Math.floorMod(start + drift * year, 7);
        }

        int where(int tier, int line) {
            for (int i = 0; i < homes.size(); i++) {
                if (homes.get(i).tier == tier && homes.get(i).line == line) {
                    return i;
                }
            }
            return -1;
        }

        static int kept(int line) {
            return line < 0 ? 0 : line > 6 ? 6 : line;
        }

        End go() {
            return go(top());
        }

        End go(int top) {
            List<Integer> lines = new ArrayList<>(List.of(top));
            int line = top;
            int fast = speed;
            for (int tier = 1; tier <= tiers; tier++) {
                line = tier % every == 0 ? kept(line + tend - 1) : line;
                int home = where(tier, line);
                if (home < 0) {
                    lines.add(line);
                    continue;
                }
                Home h = homes.get(home);
                boolean stops = h.sort == 'm' || h.sort == 'd' && h.open;
                boolean aside = (h.sort == 'd' || h.sort == 'p') && !h.open;
                int slower = stops ? 0 : aside ? 2 : 1;
                int by = stops ? 0 : aside ? 1 - 2 * (tier % 2) : h.sort == 'w' ? -1 : h.sort == 'u' ? 1 : 0;
                fast -= slower;
                line = kept(line + by);
                lines.add(line);
                if (stops || fast <= 0) {
                    return new End(home, Math.max(fast, 0), lines);
                }
            }
            return new End(-1, fast, lines);
        }

        int sulking() {
            int bits = 0;
            int has = go().house;
            for (int i = 0; i < homes.size(); i++) {
                int then = turned(1 << i).go().house;
                if (homes.get(i).wants ? has != i && then == i : has == i && then != i) {
                    bits |= 1 << i;
                }
            }
            return bits;
        }
    }

    /** The second reading. */
    private static final class Second {
        private static final String HOUSES = "hdpmwu";
        private final int[][] rows = new int[8][];
        private final int[] lanes = new int[8];
        private final StringBuilder tape = new StringBuilder();
        private final Deque<Slope> before = new ArrayDeque<>();
        private final Slope[] images = new Slope[2];
        private final List<Integer> trace = new ArrayList<>();
        private Slope now;
        private int fault;
        private int status;

        int answer(int[] c) {
            boolean rowed = c[0] < 4 || c[0] == 25 || c[0] == 26 || c[0] == 32;
            if (c[0] > 34) {
                return c[0] == 36 ? status : out(c[1], 0, 9) ? Check.BAD : count(c[1]);
            }
            int answer = c[0] < 4 ? rowCall(c) : c[0] < 14 ? actCall(c) : c[0] < 25 ? foretold(c) : otherCall(c);
            if (rowed && (answer > -1000001 || answer < -1000003)) {
                status = answer <= -1000011 && answer >= -1000015 ? -1000010 - answer : 0;
            }
            return answer;
        }

        private static boolean out(int n, int least, int most) {
            return n < least || n > most;
        }

        private static boolean outside(int[] row, long i, long n) {
            return i < 0 || n < 0 || i + n > row.length;
        }

        private int rowCall(int[] c) {
            if (out(c[1], 0, 7) || c[0] == 2 && out(c[3], 0, 7)) {
                return Check.BAD;
            }
            if (c[0] == 0) {
                if (out(c[2], 0, 2) || c[3] > 40) {
                    return Check.BAD;
                }
                if (c[3] < 0) {
                    return Check.SIZE;
                }
                rows[c[1]] = new int[c[3]];
                lanes[c[1]] = c[2];
                return c[3];
            }
            int[] row = rows[c[1]];
            if (row == null || c[0] == 2 && rows[c[3]] == null) {
                return Check.NULL;
            }
            if (c[0] == 1) {
                if (outside(row, c[2], 1)) {
                    return Check.PLACE;
                }
                int aside = new int[] {24, 16, 0}[lanes[c[1]]];
                row[c[2]] = c[3] << aside >> aside;
                return row[c[2]];
            }
            if (c[0] == 2) {
                if (lanes[c[1]] != lanes[c[3]]) {
                    return Check.STORE;
                }
                if (outside(row, c[2], c[5]) || outside(rows[c[3]], c[4], c[5])) {
                    return Check.PLACE;
                }
                int[] taken = Arrays.copyOfRange(row, c[2], c[2] + c[5]);
                System.arraycopy(taken, 0, rows[c[3]], c[4], c[5]);
                return c[5];
            }
            rows[c[1]] = null;
            return row.length;
        }

        private int actCall(int[] c) {
            boolean house = now != null && c.length > 1 && !out(c[1], 0, now.homes.size() - 1);
            switch (c[0]) {
                case 4:
                    if (out(c[1], 0, 255)) {
                        return Check.BAD;
                    }
                    if (tape.length() == 100) {
                        return Check.FULL;
                    }
                    tape.append((char) c[1]);
                    return tape.length();
                case 5:
                    return read();
                case 6:
                    return fault;
                case 7:
                    return pass(c[1]);
                case 8:
                    if (!house || out(c[2], 0, 1)) {
                        return Check.BAD;
                    }
                    if (now.homes.get(c[1]).open == (c[2] == 1)) {
                        return Check.STATE;
                    }
                    act(now.turned(1 << c[1]));
                    return now.open();
                case 9:
                    if (!house || out(c[2], 1, now.tiers) || out(c[3], 0, 6)) {
                        return Check.BAD;
                    }
                    if (now.where(c[2], c[3]) >= 0) {
                        return Check.STATE;
                    }
                    Home h = now.homes.get(c[1]);
                    act(now.with(c[1], h.moved(c[2], c[3])));
                    return 10 * h.tier + h.line;
                case 10:
                    if (now == null || out(c[1], 1, 9)) {
                        return now == null ? Check.STATE : Check.BAD;
                    }
                    int was = now.speed;
                    act(now.law(now.start, now.drift, c[1], now.tend));
                    return was;
                case 11:
                    if (before.isEmpty()) {
                        return Check.STATE;
                    }
                    now = before.pop();
                    return before.size();
                case 12:
                    if (!house || out(c[2], 0, 4)) {
                        return Check.BAD;
                    }
                    Home k = now.homes.get(c[1]);
                    return new int[] {k.tier, k.line, k.wants ? 1 : 0, k.open ? 1 : 0, k.got}[c[2]];
                default:
                    if (now == null || out(c[1], 1, now.tiers) || out(c[2], 0, 6)) {
                        return Check.BAD;
                    }
                    return none(now.where(c[1], c[2]));
            }
        }

        private static int none(int n) {
            return n < 0 ? Check.NONE : n;
        }

        private void act(Slope then) {
            before.push(now);
            if (before.size() > 24) {
                before.removeLast();
            }
            now = then;
        }

        private int pass(int n) {
            if (now == null) {
                return Check.STATE;
            }
            if (out(n, 1, 24)) {
                return Check.BAD;
            }
            if (now.year + n > 999) {
                return Check.FULL;
            }
            int last = -1;
            for (int k = 0; k < n; k++) {
                last = now.go().house;
                Slope then = last < 0 ? now : now.with(last, now.homes.get(last).gladder());
                act(then.later(1));
            }
            return none(last);
        }

        /** All tokens are cut first; then they are looked at one behind the other. */
        private int read() {
            String text = tape.toString();
            tape.setLength(0);
            List<String> tokens = new ArrayList<>();
            List<Integer> places = new ArrayList<>();
            Matcher m = Pattern.compile("[a-z]|[0-9]+|[,;]|.", Pattern.DOTALL).matcher(text);
            while (m.find()) {
                tokens.add(m.group());
                places.add(m.start());
            }
            tokens.add("");
            places.add(text.length());
            List<Integer> law = new ArrayList<>();
            List<Home> homes = new ArrayList<>();
            int[] told = new int[3];
            char sort = ' ';
            for (int i = 0; i < tokens.size(); i++) {
                String token = tokens.get(i);
                int in = i < 13 ? i : (i - 13) % 7;
                if (token.isEmpty() && i >= 13 && in == 0) {
                    break;
                }
                int wrong = 0;
                String shape = i == 0 ? "c" : i >= 13 && in == 0 ? "[dpmwu]" : in % 2 == 1 ? "[0-9]{1,2}"
                        : i < 13 ? i == 12 ? ";" : "," : in == 6 ? ";" : ",";
                if (!token.matches(shape)) {
                    wrong = 1;
                } else if (in % 2 == 1) {
                    int n = Integer.parseInt(token);
                    int[] least = i < 13 ? new int[] {2, 0, 0, 1, 0, 1} : new int[] {1, 0, 0};
                    int[] most = i < 13 ? new int[] {9, 6, 6, 9, 2, 9} : new int[] {law.get(0), 6, 1};
                    wrong = out(n, least[in / 2], most[in / 2]) ? 2 : 0;
                    if (i < 13) {
                        law.add(n);
                    } else {
                        told[in / 2] = n;
                        if (in == 3 && homes.stream().anyMatch(h -> h.tier == told[0] && h.line == n)) {
                            wrong = 2;
                        }
                    }
                } else if (i >= 13 && in == 0) {
                    sort = token.charAt(0);
                    wrong = homes.size() == 6 ? 3 : 0;
                } else if (i >= 13 && in == 6) {
                    homes.add(new Home(sort, told[0], told[1], told[2] == 1, true, 0));
                }
                if (wrong != 0) {
                    fault = wrong;
                    return Check.FAULTY - places.get(i);
                }
            }
            now = new Slope(law.get(0), law.get(1), law.get(2), law.get(3), law.get(4), law.get(5), 0, List.copyOf(homes));
            before.clear();
            return homes.size();
        }

        private int foretold(int[] c) {
            boolean house = now != null && c.length > 1 && !out(c[1], 0, now.homes.size() - 1);
            boolean housed = c[0] == 18 || c[0] == 19 || c[0] == 20 || c[0] == 22;
            if (housed && !house) {
                return Check.BAD;
            }
            if (now == null) {
                return Check.STATE;
            }
            switch (c[0]) {
                case 14, 15:
                    return out(c[1], 0, 60) ? Check.BAD : none(now.later(c[1]).go().house);
                case 16:
                    if (out(c[1], 0, now.tiers) || out(c[2], 0, 60)) {
                        return Check.BAD;
                    }
                    List<Integer> lines = now.later(c[2]).go().lines;
                    return c[1] < lines.size() ? lines.get(c[1]) : Check.NONE;
                case 17:
                    return out(c[1], 0, 60) ? Check.BAD : now.later(c[1]).go().speed;
                case 18:
                    for (int d = 0; d <= 60; d++) {
                        if (now.later(d).go().house == c[1]) {
                            return d;
                        }
                    }
                    return Check.NONE;
                case 19:
                    return out(c[2], 1, 60) ? Check.BAD : times(now, c[1], c[2]);
                case 20:
                    return doors(c, r -> r == c[1]);
                case 21:
                    if (out(c[1], 0, (1 << now.homes.size()) - 1)) {
                        return Check.BAD;
                    }
                    return doors(c, r -> r < 0 || (c[1] >> r & 1) == 0);
                case 22:
                    return out(c[2], 1, 20) || out(c[3], 0, 2) ? Check.BAD : site(c[1], c[2])[c[3]];
                case 23:
                    return now.sulking();
                default:
                    return out(c[1], 0, 1) ? Check.BAD : peace(c[1]);
            }
        }

        private static int times(Slope s, int house, int n) {
            int times = 0;
            for (int d = 0; d < n; d++) {
                times += s.later(d).go().house == house ? 1 : 0;
            }
            return times;
        }

        private int doors(int[] c, IntPredicate good) {
            if (out(c[2], 0, 60) || out(c[3], 0, 1)) {
                return Check.BAD;
            }
            for (int many = 0; many <= now.homes.size(); many++) {
                for (int bits = 0; bits < 1 << now.homes.size(); bits++) {
                    if (Integer.bitCount(bits) == many && good.test(now.turned(bits).later(c[2]).go().house)) {
                        return c[3] == 0 ? many : bits;
                    }
                }
            }
            return Check.NONE;
        }

        private int[] site(int house, int n) {
            int[] best = null;
            for (int cell = 7; cell < 7 * now.tiers + 7; cell++) {
                int there = now.where(cell / 7, cell % 7);
                if (there < 0 || there == house) {
                    Slope s = now.with(house, now.homes.get(house).moved(cell / 7, cell % 7));
                    int[] found = {cell / 7, cell % 7, times(s, house, n)};
                    best = best == null || found[2] > best[2] ? found : best;
                }
            }
            return best;
        }

        private int peace(int what) {
            Slope s = now;
            int turns = 0;
            while (s.sulking() != 0) {
                if (turns == 40) {
                    return Check.NONE;
                }
                s = s.turned(Integer.lowestOneBit(s.sulking()));
                turns++;
            }
            return what == 0 ? turns : s.open();
        }

        private int otherCall(int[] c) {
            boolean house = now != null && !out(c[1], 0, now.homes.size() - 1);
            switch (c[0]) {
                case 25:
                    if (now == null) {
                        return Check.STATE;
                    }
                    return out(c[4], 0, 3) ? Check.BAD : fit(c[1], c[2], c[3], laws(c[4]), c[4] == 2 ? 1 : 0);
                case 26:
                    return house ? fit(c[2], c[3], c[4], kinds(c[1]), 1) : Check.BAD;
                case 27:
                    return !house || out(c[2], 0, 10) || out(c[3], 0, 1) ? Check.BAD : play(c[1], c[2], c[3]);
                case 28:
                    if (now == null) {
                        return Check.STATE;
                    }
                    return out(c[1], 0, 60) || out(c[2], 1, 999999) || out(c[3], 0, 1) ? Check.BAD : drawn(c[1], c[2])[c[3]];
                case 29:
                    if (out(c[1], 0, 1) || now == null) {
                        return out(c[1], 0, 1) ? Check.BAD : Check.STATE;
                    }
                    images[c[1]] = now;
                    return 1;
                case 30:
                    if (out(c[1], 0, 1) || images[c[1]] == null) {
                        return out(c[1], 0, 1) ? Check.BAD : Check.STATE;
                    }
                    now = images[c[1]];
                    before.clear();
                    return 1;
                case 31:
                    return house ? HOUSES.indexOf(now.homes.get(c[1]).sort) : Check.BAD;
                case 32:
                    if (!house || out(c[2], 0, 5)) {
                        return Check.BAD;
                    }
                    return isA(now.homes.get(c[1]).sort, HOUSES.charAt(c[2])) ? c[1] : Check.KIND;
                case 33:
                    if (!house || out(c[2], 0, 1)) {
                        return Check.BAD;
                    }
                    trace.clear();
                    Asked asked = Asked.of(now.homes.get(c[1]), c[1], trace);
                    return c[2] == 0 ? asked.size() : asked.mark();
                default:
                    return out(c[1], 0, trace.size() - 1) ? Check.NONE : trace.get(c[1]);
            }
        }

        private static boolean isA(char sort, char wanted) {
            return wanted == 'h' || sort == wanted || wanted == 'd' && (sort == 'p' || sort == 'm') || wanted == 'w' && sort == 'u';
        }

        private List<Slope> laws(int what) {
            List<Slope> list = new ArrayList<>();
            for (int v = 0; v < 7; v++) {
                if (what == 0) {
                    list.add(now.law(v, now.drift, now.speed, now.tend));
                } else if (what == 1) {
                    list.add(now.law(now.start, v, now.speed, now.tend));
                }
            }
            for (int v = 1; v <= 9 && what == 2; v++) {
                list.add(now.law(now.start, now.drift, v, now.tend));
            }
            for (int v = 0; v <= 2 && what == 3; v++) {
                list.add(now.law(now.start, now.drift, now.speed, v));
            }
            return list;
        }

        private List<Slope> kinds(int house) {
            List<Slope> list = new ArrayList<>();
            for (char sort : "dpmwu".toCharArray()) {
                list.add(now.with(house, now.homes.get(house).of(sort)));
            }
            return list;
        }

        private int fit(int row, int i, int n, List<Slope> slopes, int first) {
            if (out(row, 0, 7) || out(n, 1, 16)) {
                return Check.BAD;
            }
            if (rows[row] == null) {
                return Check.NULL;
            }
            if (outside(rows[row], i, n)) {
                return Check.PLACE;
            }
            int bits = 0;
            for (int k = 0; k < slopes.size(); k++) {
                boolean so = true;
                for (int d = 0; d < n; d++) {
                    so &= slopes.get(k).later(d).go().house == rows[row][i + d];
                }
                bits |= so ? 1 << first + k : 0;
            }
            return bits;
        }

        private int play(int house, int c, int what) {
            int n = now.homes.size();
            BigInteger above = BigInteger.ZERO;
            for (int bits = 0; bits < 1 << n; bits++) {
                if (now.turned(bits).go().house == house) {
                    int k = Integer.bitCount(bits);
                    above = above.add(BigInteger.valueOf(c).pow(k).multiply(BigInteger.valueOf(10 - c).pow(n - k)));
                }
            }
            BigInteger below = BigInteger.TEN.pow(n);
            BigInteger part = above.gcd(below);
            return (what == 0 ? above : below).divide(part).intValueExact();
        }

        private int[] drawn(int n, int seed) {
            BigInteger x = BigInteger.valueOf(seed);
            BigInteger modulus = BigInteger.valueOf(2147483647);
            Slope s = now;
            int[] at = new int[6];
            for (int k = 0; k < n; k++) {
                x = x.multiply(BigInteger.valueOf(16807)).mod(modulus);
                int v = x.intValueExact();
                if (v % 3 == 0 && !s.homes.isEmpty()) {
                    s = s.turned(1 << v % s.homes.size());
                }
                int house = s.go(v % 7).house;
                if (house >= 0) {
                    at[house]++;
                }
            }
            int all = Arrays.stream(at).sum();
            int most = Arrays.stream(at).max().getAsInt();
            int which = 0;
            while (at[which] < most) {
                which++;
            }
            return new int[] {all, all == 0 ? Check.NONE : which};
        }

        int count(int what) {
            if (what == 0) {
                return (int) Arrays.stream(rows).filter(r -> r != null).count();
            }
            if (what == 6) {
                return before.size();
            }
            if (what == 7) {
                return tape.length();
            }
            if (now == null) {
                return 0;
            }
            int got = now.homes.stream().mapToInt(Home::got).sum();
            return new int[] {0, now.tiers, now.homes.size(), now.year, now.open(), now.top(), 0, 0, now.speed, got}[what];
        }
    }

    /** The asks as Java's own classes would answer them. */
    private static class Asked {
        final Home home;
        final int number;
        final List<Integer> trace;

        Asked(Home home, int number, List<Integer> trace) {
            this.home = home;
            this.number = number;
            this.trace = trace;
        }

        static Asked of(Home h, int number, List<Integer> trace) {
            return switch (h.sort) {
                case 'd' -> new AskedDoor(h, number, trace);
                case 'p' -> new AskedPost(h, number, trace);
                case 'm' -> new AskedMiser(h, number, trace);
                case 'w' -> new AskedWall(h, number, trace);
                default -> new AskedPump(h, number, trace);
            };
        }

        int size() {
            trace.add(10);
            return home.tier;
        }

        int mark() {
            trace.add(20);
            return number;
        }
    }

    private static class AskedDoor extends Asked {
        AskedDoor(Home home, int number, List<Integer> trace) {
            super(home, number, trace);
        }

        @Override
        int size() {
            trace.add(11);
            return super.size() + mark();
        }

        @Override
        int mark() {
            trace.add(21);
            return super.mark() + home.got;
        }
    }

    private static final class AskedPost extends AskedDoor {
        AskedPost(Home home, int number, List<Integer> trace) {
            super(home, number, trace);
        }

        @Override
        int size() {
            trace.add(12);
            return 0 - super.size();
        }

        @Override
        int mark() {
            trace.add(24);
            return super.mark() * 2;
        }
    }

    private static final class AskedMiser extends AskedDoor {
        AskedMiser(Home home, int number, List<Integer> trace) {
            super(home, number, trace);
        }

        @Override
        int mark() {
            trace.add(22);
            return super.mark() - 1000;
        }
    }

    private static class AskedWall extends Asked {
        AskedWall(Home home, int number, List<Integer> trace) {
            super(home, number, trace);
        }

        @Override
        int size() {
            trace.add(13);
            return super.size() - 100;
        }

        @Override
        int mark() {
            trace.add(23);
            return super.mark() - size();
        }
    }

    private static final class AskedPump extends AskedWall {
        AskedPump(Home home, int number, List<Integer> trace) {
            super(home, number, trace);
        }

        @Override
        int size() {
            trace.add(14);
            return super.size() * 2;
        }
    }
}
