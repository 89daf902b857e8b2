import java.math.BigInteger;
import java.util.ArrayList;
import java.util.List;
import java.util.regex.Matcher;
import java.util.regex.Pattern;

/**
 * The document told once more, as plainly as the whole Java library allows: immutable lists of
 * facts, true arrays and casts, and refusals by exceptions. RunsTest compares the class with it.
 */
public final class Model {
    private static final long NO = -1000000000000L;

    private static final class Refusal extends RuntimeException {
        private static final long serialVersionUID = 1L;
        final long answer;

        Refusal(long answer) {
            super(null, null, false, false);
            this.answer = answer;
        }
    }

    private record Saying(int who, int day, int weather) {
    }

    private static final class State {
        int[] worth = new int[20];
        int[][] weight = new int[20][4];
        Integer[] sign = new Integer[20];
        Integer[] was = new Integer[20];
        int now = 0;
        int z = 1;
        int[] law = {10, 2, 1, 6};
        List<int[]> sayers = new ArrayList<>();
        List<Saying> sayings = new ArrayList<>();

        State() {
            java.util.Arrays.fill(worth, 10);
            for (int[] w : weight) {
                java.util.Arrays.fill(w, 1);
            }
        }

        State copy() {
            State s = new State();
            s.worth = worth.clone();
            for (int d = 0; d < 20; d++) {
                s.weight[d] = weight[d].clone();
            }
            s.sign = sign.clone();
            s.was = was.clone();
            s.now = now;
            s.z = z;
            s.law = law.clone();
            for (int[] sayer : sayers) {
                s.sayers.add(sayer.clone());
            }
            s.sayings.addAll(sayings);
            return s;
        }

        int[] weights(int day) {
            int[] w = weight[day].clone();
            if (sign[day] != null) {
                w[sign[day]] += law[3];
            }
            return w;
        }

        int all(int day) {
            return java.util.stream.IntStream.of(weights(day)).sum();
        }

        int earn(int day) {
            return worth[day] * law[0] / 100;
        }

        int likeliest(int day) {
            int[] w = weights(day);
            int max = java.util.stream.IntStream.of(w).max().getAsInt();
            return java.util.stream.IntStream.range(0, 4).filter(i -> w[i] == max).findFirst().getAsInt();
        }

        boolean said(int day, int weather) {
            return sayings.stream().anyMatch(s -> s.day == day && s.weather == weather);
        }

        boolean untouched(int day) {
            return sayings.stream().noneMatch(s -> s.day == day);
        }

        /** What the sayer would say, as (day, weather) pairs. */
        List<int[]> plan(int sayer) {
            List<int[]> plan = new ArrayList<>();
            if (now == 20) {
                return plan;
            }
            int kind = sayers.get(sayer)[0];
            int a = sayers.get(sayer)[1];
            if (kind == 1 || kind == 4) {
                int found = -1;
                for (int d = now; d <= now + a && d <= 19; d++) {
                    if (untouched(d)) {
                        found = d;
                    }
                }
                if (found >= 0 && kind == 1) {
                    plan.add(new int[] {found, likeliest(found)});
                } else if (found >= 0) {
                    for (int w = 0; w < 4; w++) {
                        plan.add(new int[] {found, w});
                    }
                }
            } else if (kind == 2) {
                plan.add(new int[] {now, likeliest(now)});
            } else if (kind == 3) {
                if (10 * weights(now)[likeliest(now)] >= a * all(now)) {
                    plan.add(new int[] {now, likeliest(now)});
                }
            } else if (kind == 5) {
                plan.add(new int[] {now, a % 4});
            }
            plan.removeIf(p -> said(p[0], p[1]));
            while (sayings.size() + plan.size() > 40) {
                plan.remove(plan.size() - 1);
            }
            return plan;
        }

        void utter(int sayer, int day, int weather) {
            sayers.get(sayer)[2] -= law[2];
            sayings.add(new Saying(sayer, day, weather));
        }

        int draw(int day) {
            z = z * 1103515245 + 12345;
            List<Integer> urn = new ArrayList<>();
            int[] w = weights(day);
            for (int i = 0; i < 4; i++) {
                for (int k = 0; k < w[i]; k++) {
                    urn.add(i);
                }
            }
            return urn.get((z >>> 16) % urn.size());
        }

        /** The row of that morning. */
        int[] morning() {
            for (int i = 0; i < sayers.size(); i++) {
                for (int[] p : plan(i)) {
                    utter(i, p[0], p[1]);
                }
            }
            int weather = draw(now);
            was[now] = weather;
            int owner = 0;
            for (Saying s : sayings) {
                if (s.day == now && s.weather == weather) {
                    sayers.get(s.who)[2] += earn(now);
                    owner = s.who + 1;
                } else if (s.day == now) {
                    sayers.get(s.who)[2] -= law[1];
                }
            }
            now++;
            if (now + 3 < 20 && sign[now + 3] == null) {
                sign[now + 3] = draw(now + 3);
            }
            return new int[] {weather, owner, sayers.stream().mapToInt(s -> s[2]).sum()};
        }

        Fraction gain(int day, int weather) {
            Fraction odds = new Fraction(weights(day)[weather], all(day));
            Fraction rest = new Fraction(1, 1).minus(odds);
            return odds.times(earn(day)).minus(rest.times(law[1])).minus(new Fraction(law[2], 1));
        }
    }

    private static final class Fraction implements Comparable<Fraction> {
        final BigInteger above;
        final BigInteger below;

        Fraction(long above, long below) {
            this(BigInteger.valueOf(above), BigInteger.valueOf(below));
        }

        Fraction(BigInteger above, BigInteger below) {
            BigInteger g = above.gcd(below);
            this.above = above.divide(g);
            this.below = below.divide(g);
        }

        Fraction plus(Fraction o) {
            return new Fraction(above.multiply(o.below).add(o.above.multiply(below)), below.multiply(o.below));
        }

        Fraction minus(Fraction o) {
            return plus(o.times(-1));
        }

        Fraction times(long v) {
            return new Fraction(above.multiply(BigInteger.valueOf(v)), below);
        }

        Fraction times(Fraction o) {
            return new Fraction(above.multiply(o.above), below.multiply(o.below));
        }

        @Override
        public int compareTo(Fraction o) {
            return above.multiply(o.below).compareTo(o.above.multiply(below));
        }

        long part(int part) {
            return (part == 0 ? above : below).longValueExact();
        }
    }

    // The acts, with the language's own division.
    private static class Thing {
        final int n;
        final int a;
        final List<Integer> ran;

        Thing(int n, int a, List<Integer> ran) {
            this.n = n;
            this.a = a;
            this.ran = ran;
        }

        int says(int x) {
            ran.add(10);
            return x + n;
        }

        int waits(int x) {
            ran.add(11);
            return says(x) * 2;
        }

        int shares(int x) {
            ran.add(12);
            return x / (a - n);
        }

        int tells(int x) {
            ran.add(13);
            return waits(x) ^ a;
        }
    }

    private static class EarlyThing extends Thing {
        EarlyThing(int n, int a, List<Integer> ran) {
            super(n, a, ran);
        }

        @Override
        int waits(int x) {
            ran.add(20);
            return super.waits(x) - a;
        }
    }

    private static class LateThing extends Thing {
        LateThing(int n, int a, List<Integer> ran) {
            super(n, a, ran);
        }

        @Override
        int says(int x) {
            ran.add(30);
            return super.says(x) * 3;
        }

        @Override
        int tells(int x) {
            ran.add(31);
            return super.tells(x) + shares(n);
        }
    }

    private static final class SureThing extends LateThing {
        SureThing(int n, int a, List<Integer> ran) {
            super(n, a, ran);
        }

        @Override
        int says(int x) {
            ran.add(40);
            return 0 - super.says(x);
        }

        @Override
        int waits(int x) {
            ran.add(41);
            return super.waits(x) + says(n);
        }
    }

    private static final class AllThing extends EarlyThing {
        AllThing(int n, int a, List<Integer> ran) {
            super(n, a, ran);
        }

        @Override
        int shares(int x) {
            ran.add(50);
            return super.shares(x + 2) ^ 1;
        }

        @Override
        int says(int x) {
            ran.add(51);
            return super.says(x) - n;
        }
    }

    private static final class ToldThing extends Thing {
        ToldThing(int n, int a, List<Integer> ran) {
            super(n, a, ran);
        }

        @Override
        int tells(int x) {
            ran.add(60);
            return super.tells(x) * 2;
        }

        @Override
        int shares(int x) {
            ran.add(61);
            return super.shares(x) + says(a);
        }
    }

    private State s = new State();
    private State kept = null;
    private final StringBuilder tape = new StringBuilder();
    private List<int[]> rows = new ArrayList<>();
    private final Object[] sheets = new Object[4];
    // An Integer (a sayer's number), an array, or null.
    private final Object[] shelves = new Object[4];
    private List<Integer> ran = new ArrayList<>();

    private static void need(boolean holds, long otherwise) {
        if (!holds) {
            throw new Refusal(otherwise);
        }
    }

    private static boolean in(int v, int least, int most) {
        return least <= v && v <= most;
    }

    /** A call by its name, with numbers: what it answers. */
    public long call(String name, long[] n) {
        try {
            return answer(name, n);
        } catch (Refusal r) {
            return r.answer;
        }
    }

    private long answer(String name, long[] n) {
        int a = n.length > 0 ? (int) n[0] : 0;
        int b = n.length > 1 ? (int) n[1] : 0;
        int c = n.length > 2 ? (int) n[2] : 0;
        switch (name) {
            case "feed":
                return feed(n[0], b);
            case "clerk":
                return clerk();
            case "worth":
                need(in(a, 0, 19) && in(b, 0, 99), -1);
                return swap(s.worth, a, b);
            case "weigh":
                return weigh(a, b, c);
            case "sign":
                need(in(a, 0, 19) && in(b, -1, 3), -1);
                Integer old = s.sign[a];
                s.sign[a] = b < 0 ? null : b;
                return old == null ? -9 : old;
            case "dayOf":
                return dayOf(a, b);
            case "set":
                need(in(a, 0, 3), -1);
                need(in(b, 0, new int[] {100, 99, 99, 20}[a]), -1);
                return swap(s.law, a, b);
            case "seed":
                int z = s.z;
                s.z = a;
                return z;
            case "now":
                return s.now;
            case "keep":
                kept = s.copy();
                return 1;
            case "again":
                need(kept != null, -3);
                s = kept.copy();
                return s.now;
            case "many":
                need(in(a, 0, 5), -1);
                return new int[] {s.sayers.size(), s.sayings.size(), s.now, rows.size(), tape.length(),
                    Math.min(30, ran.size())}[a];
            case "trace":
                need(in(a, 0, Math.min(30, ran.size()) - 1), -3);
                return ran.get(a);
            default:
                return ofSayers(name, a, b, c, n);
        }
    }

    private static int swap(int[] array, int i, int v) {
        int old = array[i];
        array[i] = v;
        return old;
    }

    private long ofSayers(String name, int a, int b, int c, long[] n) {
        boolean isSayer = in(a, 0, s.sayers.size() - 1);
        switch (name) {
            case "sayer":
                need(in(a, 0, 5) && in(b, 0, 9), -1);
                need(s.sayers.size() < 5, -2);
                s.sayers.add(new int[] {a, b, 0});
                return s.sayers.size() - 1;
            case "sayerOf":
                need(isSayer && in(b, 0, 3), -1);
                if (b == 3) {
                    return s.sayings.stream().filter(x -> x.who == a).count();
                }
                return s.sayers.get(a)[b] + (b == 2 ? 100000 : 0);
            case "mind":
                need(isSayer && in(b, 0, 5) && in(c, 0, 9), -1);
                s.sayers.get(a)[1] = c;
                return swap(s.sayers.get(a), 0, b);
            case "purse":
                need(isSayer && in(b, -9999, 9999), -1);
                return swap(s.sayers.get(a), 2, b) + 100000;
            case "say":
                need(isSayer && in(b, s.now, 19) && in(c, 0, 3), -1);
                need(!s.said(b, c), -4);
                need(s.sayings.size() < 40, -2);
                s.utter(a, b, c);
                return s.sayings.size() - 1;
            case "sayingOf":
                need(in(a, 0, s.sayings.size() - 1) && in(b, 0, 3), -1);
                Saying x = s.sayings.get(a);
                return new int[] {x.who, x.day, x.weather, x.day >= s.now ? 0 : right(x) ? 1 : 2}[b];
            case "would":
                need(isSayer && in(b, 0, 2), -1);
                List<int[]> plan = s.plan(a);
                need(b == 2 || !plan.isEmpty(), -3);
                return b == 2 ? plan.size() : plan.get(0)[b];
            case "morning":
                need(in(a, 0, 20), -1);
                for (int i = 0; i < a && s.now < 20; i++) {
                    s.morning();
                }
                return s.now;
            case "owner":
                need(in(a, 0, 19), -1);
                return s.sayings.stream().filter(y -> y.day == a && right(y)).mapToInt(y -> y.who).findFirst().orElse(-3);
            default:
                return ofWorth(name, a, b, c, n);
        }
    }

    private boolean right(Saying x) {
        return x.day < s.now && s.was[x.day] != null && s.was[x.day] == x.weather;
    }

    private long ofWorth(String name, int a, int b, int c, long[] n) {
        switch (name) {
            case "odds":
                need(in(a, s.now, 19) && in(b, 0, 3) && in(c, 0, 1), -1);
                return new Fraction(s.weights(a)[b], s.all(a)).part(c);
            case "gain":
                need(in(a, s.now, 19) && in(b, 0, 3) && in(c, 0, 1), NO);
                need(!s.said(a, b), NO);
                return s.gain(a, b).part(c);
            case "waited":
                return waited(a, b);
            case "best":
                return best(a);
            case "whole":
                need(in(a, s.now, 19) && in(b, 0, 1), NO);
                Fraction whole = new Fraction(0, 1);
                for (int w = 0; w < 4; w++) {
                    whole = s.said(a, w) ? whole : whole.plus(s.gain(a, w));
                }
                return whole.part(b);
            case "owed":
                need(in(a, 0, s.sayers.size() - 1), NO);
                return owed(a);
            case "believed":
                need(in(a, 0, s.sayers.size() - 1) && in(b, 0, 1), -1);
                return believed(a).part(b);
            case "whom":
                need(!s.sayers.isEmpty(), -3);
                int whom = 0;
                for (int i = 1; i < s.sayers.size(); i++) {
                    whom = believed(i).compareTo(believed(whom)) > 0 ? i : whom;
                }
                return whom;
            case "open":
                int set = 0;
                for (int d = s.now; d < 20; d++) {
                    set += s.untouched(d) ? 1 << d : 0;
                }
                return set;
            default:
                return ofRows(name, a, b, c, n);
        }
    }

    private Fraction believed(int sayer) {
        long over = s.sayings.stream().filter(x -> x.who == sayer && x.day < s.now).count();
        long right = s.sayings.stream().filter(x -> x.who == sayer && right(x)).count();
        return over == 0 ? new Fraction(0, 1) : new Fraction(right, over);
    }

    private long owed(int sayer) {
        long sum = 1000L * s.sayers.get(sayer)[2];
        for (Saying x : s.sayings) {
            if (x.who == sayer && x.day >= s.now) {
                int w = s.weights(x.day)[x.weather];
                int all = s.all(x.day);
                sum += 1000L * (s.earn(x.day) * w - s.law[1] * (all - w)) / all;
            }
        }
        return sum;
    }

    private long waited(int day, int part) {
        need(in(day, 0, 19) && in(part, 0, 1), NO);
        need(s.sign[day] == null && day > s.now + 3, NO);
        Fraction sum = new Fraction(0, 1);
        for (int sign = 0; sign < 4; sign++) {
            Fraction odds = new Fraction(s.weight[day][sign], s.all(day));
            State t = s.copy();
            t.sign[day] = sign;
            Fraction best = new Fraction(0, 1);
            for (int w = 0; w < 4; w++) {
                if (!t.said(day, w) && t.gain(day, w).compareTo(best) > 0) {
                    best = t.gain(day, w);
                }
            }
            sum = sum.plus(odds.times(best));
        }
        return sum.part(part);
    }

    private long best(int what) {
        need(in(what, 0, 1), -1);
        int[] best = null;
        for (int d = s.now; d < 20; d++) {
            for (int w = 0; w < 4; w++) {
                if (!s.said(d, w) && (best == null || s.gain(d, w).compareTo(s.gain(best[0], best[1])) > 0)) {
                    best = new int[] {d, w};
                }
            }
        }
        need(best != null, -3);
        return best[what];
    }

    private long ofRows(String name, int a, int b, int c, long[] n) {
        int d = n.length > 3 ? (int) n[3] : 0;
        switch (name) {
            case "prove":
                need(in(a, 1, 20), -1);
                State t = s.copy();
                rows = new ArrayList<>();
                while (rows.size() < a && t.now < 20) {
                    rows.add(t.morning());
                }
                return rows.size();
            case "row":
                need(in(a, 0, rows.size() - 1) && in(b, 0, 2), Integer.MIN_VALUE);
                return rows.get(a)[b];
            case "alterRow":
                need(in(a, 0, rows.size() - 1) && in(b, 0, 2), Integer.MIN_VALUE);
                return swap(rows.get(a), b, c);
            case "judge":
                State j = s.copy();
                for (int i = 0; i < rows.size(); i++) {
                    if (j.now == 20 || !java.util.Arrays.equals(rows.get(i), j.morning())) {
                        return i + 1;
                    }
                }
                return 0;
            case "worths":
                need(in(a, 0, 3) && in(c, 0, 19) && in(d, 0, 20) && c + d <= 20, -1);
                return host(() -> worths(sheets[a], b, c, d));
            default:
                return ofHost(name, a, b, c);
        }
    }

    private interface Work {
        long done();
    }

    /** What the host refuses, as the machine itself tells it. */
    private static long host(Work work) {
        try {
            return work.done();
        } catch (NullPointerException e) {
            return -11;
        } catch (IndexOutOfBoundsException e) {
            return -12;
        } catch (ClassCastException e) {
            return -13;
        } catch (NegativeArraySizeException e) {
            return -14;
        } catch (ArithmeticException e) {
            return -15;
        }
    }

    private long worths(Object sheet, int i, int day, int n) {
        byte[] bytes = (byte[]) java.util.Objects.requireNonNull(sheet);
        byte[] some = new byte[n];
        System.arraycopy(bytes, i, some, 0, n);
        for (int k = 0; k < n; k++) {
            s.worth[day + k] = some[k] < 0 ? 0 : some[k] > 99 ? 99 : some[k];
        }
        return n;
    }

    private long ofHost(String name, int a, int b, int c) {
        switch (name) {
            case "sheet":
                need(in(a, 0, 3) && in(b, -1, 3) && (b == -1 || c <= 40), -1);
                return host(() -> {
                    sheets[a] = switch (b) {
                        case 0 -> new byte[c];
                        case 1 -> new short[c];
                        case 2 -> new int[c];
                        case 3 -> new long[c];
                        default -> null;
                    };
                    return 1;
                });
            case "put":
                need(in(a, 0, 3), -1);
                return host(() -> put(java.util.Objects.requireNonNull(sheets[a]), b, c));
            case "item":
                need(in(a, 0, 3) && in(b, 0, 3), -1);
                return host(() -> {
                    Object row = java.util.Objects.requireNonNull(sheets[a]);
                    return switch (b) {
                        case 0 -> ((byte[]) row)[c];
                        case 1 -> ((short[]) row)[c];
                        case 2 -> ((int[]) row)[c];
                        default -> (int) ((long[]) row)[c];
                    };
                });
            case "shelf":
                need(in(a, 0, 3) && in(b, 0, 2), -1);
                need(b != 0 || in(c, 0, s.sayers.size() - 1), -1);
                need(b != 1 || in(c, 0, 3), -1);
                shelves[a] = b == 0 ? (Object) c : b == 1 ? sheets[c] : null;
                return 1;
            case "taken":
                need(in(a, 0, 3) && (in(b, 0, 5) || in(b, 10, 13)), -1);
                return host(() -> taken(java.util.Objects.requireNonNull(held(a, new ArrayList<>())), b));
            case "act":
                ran = new ArrayList<>();
                if (!in(a, 0, 3) || !in(b, 0, 3) || !(held(a, ran) instanceof Thing)) {
                    return 0;
                }
                Thing thing = (Thing) held(a, ran);
                return host(() -> b == 0 ? thing.says(c) : b == 1 ? thing.waits(c) : b == 2 ? thing.shares(c) : thing.tells(c));
            default:
                throw new IllegalStateException(name);
        }
    }

    private static long put(Object row, int i, int v) {
        if (row instanceof byte[] bytes) {
            bytes[i] = (byte) v;
        } else if (row instanceof short[] shorts) {
            shorts[i] = (short) v;
        } else if (row instanceof int[] ints) {
            ints[i] = v;
        } else {
            ((long[]) row)[i] = v;
        }
        return 1;
    }

    private Object held(int shelf, List<Integer> trace) {
        Object what = shelves[shelf];
        if (!(what instanceof Integer)) {
            return what;
        }
        int n = (Integer) what;
        if (n >= s.sayers.size()) {
            return null;
        }
        int a = s.sayers.get(n)[1];
        return switch (s.sayers.get(n)[0]) {
            case 0 -> new Thing(n, a, trace);
            case 1 -> new EarlyThing(n, a, trace);
            case 2 -> new LateThing(n, a, trace);
            case 3 -> new SureThing(n, a, trace);
            case 4 -> new AllThing(n, a, trace);
            default -> new ToldThing(n, a, trace);
        };
    }

    private static long taken(Object what, int as) {
        return switch (as) {
            case 0 -> ((Thing) what).n;
            case 1 -> ((EarlyThing) what).n;
            case 2 -> ((LateThing) what).n;
            case 3 -> ((SureThing) what).n;
            case 4 -> ((AllThing) what).n;
            case 5 -> ((ToldThing) what).n;
            case 10 -> ((byte[]) what).length;
            case 11 -> ((short[]) what).length;
            case 12 -> ((int[]) what).length;
            default -> ((long[]) what).length;
        };
    }

    private long weigh(int day, int weather, int v) {
        need(in(day, 0, 19) && in(weather, 0, 3) && in(v, 0, 9), -1);
        int[] w = s.weight[day].clone();
        w[weather] = v;
        need(w[0] + w[1] + w[2] + w[3] > 0, -4);
        return swap(s.weight[day], weather, v);
    }

    private long dayOf(int day, int what) {
        need(in(day, 0, 19) && in(what, 0, 9), -1);
        int set = 0;
        for (Saying x : s.sayings) {
            set |= x.day == day ? 1 << x.weather : 0;
        }
        int[] w = s.weights(day);
        return new int[] {s.worth[day], s.sign[day] == null ? -9 : s.sign[day], s.was[day] == null ? -9 : s.was[day],
            s.earn(day), s.likeliest(day), set, w[0], w[1], w[2], w[3]}[what];
    }

    private long feed(long eight, int n) {
        need(in(n, 1, 8), -1);
        need(tape.length() + n <= 240, -2);
        for (int i = 0; i < n; i++) {
            tape.append((char) (eight >> 8 * i & 255));
        }
        return tape.length();
    }

    private static final Pattern WORD = Pattern.compile("[a-z]+|[0-9]+|[^ ]", Pattern.DOTALL);

    private List<String> words;
    private List<Integer> places;
    private int at;

    private long clerk() {
        words = new ArrayList<>();
        places = new ArrayList<>();
        Matcher m = WORD.matcher(tape);
        while (m.find()) {
            words.add(m.group());
            places.add(m.start());
        }
        words.add("");
        places.add(tape.length());
        at = 0;
        tape.setLength(0);
        State t = new State();
        t.law = s.law.clone();
        t.z = s.z;
        while (at < words.size() - 1) {
            readOne(t);
            demand(words.get(at).equals(";"), at);
            at++;
        }
        s = t;
        rows = new ArrayList<>();
        return s.sayers.size();
    }

    private void demand(boolean holds, int word) {
        need(holds, -100 - places.get(word));
    }

    private int number(int least, int most) {
        String word = words.get(at);
        demand(word.matches("[0-9]{1,2}"), at);
        int v = Integer.parseInt(word);
        demand(in(v, least, most), at);
        at++;
        return v;
    }

    private void readOne(State t) {
        String word = words.get(at);
        int kind = List.of("sayer", "early", "late", "sure", "all", "told").indexOf(word);
        demand(kind >= 0 || List.of("day", "said", "now").contains(word), at);
        demand(kind < 0 || t.sayers.size() < 5, at);
        demand(!word.equals("said") || t.sayings.size() < 40, at);
        at++;
        if (kind >= 0) {
            t.sayers.add(new int[] {kind, number(0, 9), 0});
        } else if (word.equals("now")) {
            t.now = number(0, 20);
        } else if (word.equals("said")) {
            int who = number(0, t.sayers.size() - 1);
            int day = number(0, 19);
            int weather = number(0, 3);
            demand(!t.said(day, weather), at - 1);
            t.sayings.add(new Saying(who, day, weather));
        } else {
            int day = number(0, 19);
            demand(words.get(at).equals("worth"), at);
            at++;
            t.worth[day] = number(0, 99);
            t.weight[day] = new int[] {1, 1, 1, 1};
            t.sign[day] = null;
            if (words.get(at).equals("of")) {
                at++;
                t.weight[day] = new int[] {number(0, 9), number(0, 9), number(0, 9), number(0, 9)};
                demand(t.all(day) > 0, at - 1);
            }
            if (words.get(at).equals("sign")) {
                at++;
                t.sign[day] = number(0, 3);
            }
        }
    }
}
