import java.util.ArrayList;
import java.util.Arrays;
import java.util.HashMap;
import java.util.List;
import java.util.Map;

/** The document once more, as plainly as it can be said: nothing is kept that can be found anew. */
final class Model {
    static final int BAD = -1, STATE = -2, FULL = -3, NONE = -9;

    static final class Block {
        int number, routine, size, kind, called = NONE;
        boolean cold;
        int[] ways = {}, counts = {};
    }

    /** One JUMP or TEST JUMP of a BLOCK. */
    static final class Jump {
        int to, turn, behind;
        boolean test, turned, wide;

        Jump(int to, boolean test, boolean turned) {
            this.to = to;
            this.test = test;
            this.turned = turned;
        }

        int bytes() {
            return !wide ? 2 : test ? 6 : 5;
        }
    }

    static final class Laid {
        List<Integer> row = new ArrayList<>();
        Map<Integer, List<Jump>> jumps = new HashMap<>();
        Map<Integer, Integer> from = new HashMap<>(), behind = new HashMap<>(), at = new HashMap<>();
        List<Integer> bytes = new ArrayList<>();
        int turns, gaps, table;

        int next(int block) {
            int i = row.indexOf(block) + 1;
            return i < row.size() ? row.get(i) : NONE;
        }
    }

    static final class Ran {
        int how, choices, deepest, jumps, jumped, stayed, cost, missed;
        List<Integer> passed = new ArrayList<>(), pages = new ArrayList<>();
        Map<String, Integer> taken = new HashMap<>();
    }

    final List<Block> blocks = new ArrayList<>();
    final List<List<Integer>> orders = new ArrayList<>();
    final List<Object[]> undos = new ArrayList<>();
    final List<Integer> tape = new ArrayList<>();
    final Ran[] latest = new Ran[2];
    boolean apart, stale;
    int align = 1, k = 4;

    boolean is(int block) {
        return block >= 0 && block < blocks.size();
    }

    boolean isFirst(int block) {
        return orders.get(blocks.get(block).routine).get(0) == block;
    }

    List<Integer> own(int routine) {
        List<Integer> sorted = new ArrayList<>(orders.get(routine));
        sorted.sort(null);
        return sorted;
    }

    int routine() {
        if (orders.size() == 6) return FULL;
        orders.add(new ArrayList<>());
        return orders.size() - 1;
    }

    int block(int routine, int size) {
        if (routine < 0 || routine >= orders.size() || size < 1 || size > 200) return BAD;
        if (orders.get(routine).size() == 9 || blocks.size() == 40) return FULL;
        Block b = new Block();
        b.number = blocks.size();
        b.routine = routine;
        b.size = size;
        blocks.add(b);
        orders.get(routine).add(b.number);
        undos.clear();
        stale = true;
        return b.number;
    }

    int end(int block, int kind, int... told) {
        if (!is(block) || kind < 0 || kind > 6) return BAD;
        int n = new int[] {0, 0, 1, 2, 4, 1, 2}[kind];
        int called = NONE;
        if (kind == 4) for (int i = 3; i >= 0; i--) if (told[i] == -1) n = i;
        if (kind == 4 && n == 0) return BAD;
        for (int i = 0; i < n; i++) {
            if (!is(told[i]) || blocks.get(told[i]).routine != blocks.get(block).routine) return BAD;
        }
        if (kind == 5) {
            called = told[1];
            if (called < 0 || called >= orders.size() || orders.get(called).isEmpty()) return BAD;
        }
        Block b = blocks.get(block);
        b.kind = kind;
        b.called = called;
        b.ways = Arrays.copyOf(told, n);
        b.counts = new int[n];
        stale = true;
        return n;
    }

    int count(int block, int way, int n) {
        if (!is(block) || way < 0 || way >= blocks.get(block).ways.length || n < 0 || n > 1000000) return BAD;
        int was = blocks.get(block).counts[way];
        blocks.get(block).counts[way] = n;
        return was;
    }

    int cold(int block, boolean on) {
        if (!is(block) || isFirst(block)) return BAD;
        int was = blocks.get(block).cold ? 1 : 0;
        blocks.get(block).cold = on;
        return was;
    }

    int about(int block, int what) {
        if (!is(block) || what < 0 || what > 14) return BAD;
        Block b = blocks.get(block);
        if (what >= 6 && what <= 9) return what - 6 < b.ways.length ? b.ways[what - 6] : NONE;
        if (what >= 10 && what <= 13) return what - 10 < b.ways.length ? b.counts[what - 10] : NONE;
        return what == 14 ? b.called
            : new int[] {b.routine, b.size, b.kind, b.cold ? 1 : 0, orders.get(b.routine).indexOf(block),
                b.ways.length}[what];
    }

    void keep(int routine) {
        undos.add(new Object[] {routine, new ArrayList<>(orders.get(routine))});
        if (undos.size() > 12) undos.remove(0);
    }

    int move(int block, int place) {
        if (!is(block) || isFirst(block) || place < 1) return BAD;
        List<Integer> order = orders.get(blocks.get(block).routine);
        if (place >= order.size()) return BAD;
        keep(blocks.get(block).routine);
        int was = order.indexOf(block);
        order.remove(was);
        order.add(place, block);
        return was;
    }

    int swap(int block, int other) {
        if (!is(block) || !is(other) || isFirst(block) || isFirst(other)) return BAD;
        if (blocks.get(block).routine != blocks.get(other).routine) return BAD;
        keep(blocks.get(block).routine);
        List<Integer> order = orders.get(blocks.get(block).routine);
        int i = order.indexOf(block), j = order.indexOf(other);
        order.set(i, other);
        order.set(j, block);
        return 1;
    }

    boolean filled(int routine) {
        return routine >= 0 && routine < orders.size() && !orders.get(routine).isEmpty();
    }

    int order(int routine, int how) {
        if (!filled(routine) || how < 0 || how > 3) return BAD;
        keep(routine);
        List<Integer> now = orders.get(routine);
        List<Integer> found = how == 0 ? own(routine) : how == 1 ? best(routine) : how == 2 ? local(now) : chains(routine);
        orders.set(routine, found);
        return weigh(found);
    }

    int undo() {
        if (undos.isEmpty()) return STATE;
        Object[] one = undos.remove(undos.size() - 1);
        List<Integer> order = new ArrayList<>();
        for (Object b : (List<?>) one[1]) order.add((Integer) b);
        orders.set((Integer) one[0], order);
        return undos.size();
    }

    int set(int what, int on) {
        int was;
        if (what == 0 && (on == 0 || on == 1)) {
            was = apart ? 1 : 0;
            apart = on == 1;
        } else if (what == 1 && (on == 1 || on == 2 || on == 4 || on == 8 || on == 16)) {
            was = align;
            align = on;
        } else if (what == 2 && on >= 0 && on <= 8) {
            was = k;
            k = on;
        } else {
            return BAD;
        }
        return was;
    }

    int price(int block, int next) {
        Block b = blocks.get(block);
        if (b.kind == 2 || b.kind == 5 || b.kind == 6) return b.ways[0] == next ? 0 : 2 * b.counts[0];
        if (b.kind != 3) return 0;
        if (b.ways[1] == next) return 3 * b.counts[0] + b.counts[1];
        if (b.ways[0] == next) return b.counts[0] + 3 * b.counts[1];
        return 3 * b.counts[0] + 3 * b.counts[1];
    }

    int weigh(List<Integer> order) {
        int sum = 0;
        for (int i = 0; i < order.size(); i++) sum += price(order.get(i), i + 1 < order.size() ? order.get(i + 1) : NONE);
        return sum;
    }

    List<Integer> bestYet;
    int bestWeight;

    List<Integer> best(int routine) {
        bestYet = null;
        List<Integer> left = own(routine);
        List<Integer> there = new ArrayList<>();
        there.add(left.remove(0));
        allOrders(there, left, 0);
        return bestYet;
    }

    /** In the order in which they compare, so the first of least weight is met first. */
    void allOrders(List<Integer> there, List<Integer> left, int sum) {
        int last = there.get(there.size() - 1);
        if (left.isEmpty()) {
            int weight = sum + price(last, NONE);
            if (bestYet == null || weight < bestWeight) {
                bestYet = new ArrayList<>(there);
                bestWeight = weight;
            }
            return;
        }
        for (int i = 0; i < left.size(); i++) {
            int one = left.remove(i);
            there.add(one);
            allOrders(there, left, sum + price(last, one));
            there.remove(there.size() - 1);
            left.add(i, one);
        }
    }

    List<Integer> local(List<Integer> from) {
        List<Integer> now = new ArrayList<>(from);
        boolean changed = true;
        while (changed) {
            changed = false;
            for (int sort = 0; sort < 4 && !changed; sort++) {
                for (int i = 1; i < now.size() && !changed; i++) {
                    for (int j = i + 1; j < now.size() && !changed; j++) {
                        List<Integer> other = new ArrayList<>(now);
                        if (sort == 0) java.util.Collections.swap(other, i, j);
                        if (sort == 1) java.util.Collections.reverse(other.subList(i, j + 1));
                        if (sort == 2) other.add(j, other.remove(i));
                        if (sort == 3) other.add(i, other.remove(j));
                        if (weigh(other) < weigh(now)) {
                            now = other;
                            changed = true;
                        }
                    }
                }
            }
        }
        return now;
    }

    List<Integer> chains(int routine) {
        List<List<Integer>> chains = new ArrayList<>();
        List<int[]> edges = new ArrayList<>();
        for (int b : own(routine)) {
            chains.add(new ArrayList<>(List.of(b)));
            Block one = blocks.get(b);
            for (int w = 0; w < one.ways.length; w++) {
                boolean counts = one.kind == 3 || w == 0 && (one.kind == 2 || one.kind == 5 || one.kind == 6);
                if (counts && one.counts[w] > 0) edges.add(new int[] {one.counts[w], b, one.ways[w]});
            }
        }
        edges.sort((x, y) -> y[0] - x[0]);
        int first = own(routine).get(0);
        for (int[] edge : edges) {
            List<Integer> from = null, to = null;
            for (List<Integer> chain : chains) {
                if (chain.get(chain.size() - 1) == edge[1]) from = chain;
                if (chain.get(0) == edge[2]) to = chain;
            }
            if (from != null && to != null && from != to && edge[2] != first) {
                from.addAll(to);
                chains.remove(to);
            }
        }
        chains.sort((x, y) -> x.get(0) - y.get(0));
        List<Integer> order = new ArrayList<>(chains.remove(0));
        while (!chains.isEmpty()) {
            List<Integer> found = null;
            long most = -1;
            for (List<Integer> chain : chains) {
                long sum = 0;
                for (int b : order) {
                    for (int w = 0; w < blocks.get(b).ways.length; w++) {
                        if (chain.contains(blocks.get(b).ways[w])) sum += blocks.get(b).counts[w];
                    }
                }
                if (sum > most) {
                    most = sum;
                    found = chain;
                }
            }
            order.addAll(found);
            chains.remove(found);
        }
        return order;
    }

    int weight(int routine, int what) {
        if (!filled(routine) || what < 0 || what > 3) return BAD;
        List<Integer> order = orders.get(routine);
        if (what == 0) return weigh(order);
        if (what == 1) return weigh(best(routine));
        int sum = 0;
        for (int i = 0; i < order.size(); i++) {
            Block b = blocks.get(order.get(i));
            if (what == 2) {
                int least = price(b.number, NONE);
                for (int way : b.ways) least = Math.min(least, price(b.number, way));
                sum += least;
            } else {
                boolean falls = false;
                for (int way : b.ways) falls |= i + 1 < order.size() && order.get(i + 1) == way;
                sum += falls ? 1 : 0;
            }
        }
        return sum;
    }

    Laid lay() {
        Laid all = new Laid();
        for (List<Integer> order : orders) for (int b : order) if (!apart || !blocks.get(b).cold) all.row.add(b);
        for (List<Integer> order : orders) for (int b : order) if (apart && blocks.get(b).cold) all.row.add(b);
        for (int b : all.row) all.jumps.put(b, jumpsOf(blocks.get(b), all.next(b)));
        place(all);
        for (int turn = 1; widen(all, turn); turn++) {
            all.turns = turn;
            place(all);
        }
        write(all);
        return all;
    }

    List<Jump> jumpsOf(Block b, int next) {
        List<Jump> found = new ArrayList<>();
        if (b.kind == 3 && b.ways[1] == next) {
            found.add(new Jump(b.ways[0], true, false));
        } else if (b.kind == 3 && b.ways[0] == next) {
            found.add(new Jump(b.ways[1], true, true));
        } else if (b.kind == 3) {
            found.add(new Jump(b.ways[0], true, false));
            found.add(new Jump(b.ways[1], false, false));
        } else if ((b.kind == 2 || b.kind == 5 || b.kind == 6) && b.ways[0] != next) {
            found.add(new Jump(b.ways[0], false, false));
        }
        return found;
    }

    void place(Laid all) {
        int at = 0;
        all.gaps = 0;
        for (int number : all.row) {
            Block b = blocks.get(number);
            while (at % align != 0) {
                at++;
                all.gaps++;
            }
            all.from.put(number, at);
            at += b.size;
            if (b.kind < 2) at++;
            if (b.kind == 5) at += 5;
            if (b.kind == 4) {
                at += 2;
                while (at % 4 != 0) at++;
                at += 4 * b.ways.length;
            }
            for (Jump jump : all.jumps.get(number)) {
                at += jump.bytes();
                jump.behind = at;
            }
            all.behind.put(number, at);
        }
    }

    boolean widen(Laid all, int turn) {
        boolean some = false;
        for (List<Jump> jumps : all.jumps.values()) {
            for (Jump jump : jumps) {
                int d = all.from.get(jump.to) - jump.behind;
                if (!jump.wide && (d < -128 || d > 127)) {
                    jump.wide = true;
                    jump.turn = turn;
                    some = true;
                }
            }
        }
        return some;
    }

    static void word(List<Integer> bytes, int value) {
        for (int i = 0; i < 4; i++) bytes.add(value >> 8 * i & 255);
    }

    void write(Laid all) {
        List<Integer> out = all.bytes;
        for (int number : all.row) {
            Block b = blocks.get(number);
            while (out.size() < all.from.get(number)) out.add(144);
            for (int i = 0; i < b.size; i++) out.add(number);
            if (b.kind == 0) out.add(195);
            if (b.kind == 1) out.add(204);
            if (b.kind == 5) {
                out.add(232);
                word(out, all.from.get(own(b.called).get(0)) - out.size() - 4);
            }
            if (b.kind == 4) {
                out.add(255);
                out.add(36);
                while (out.size() % 4 != 0) out.add(0);
                for (int way : b.ways) word(out, all.from.get(way));
            }
            for (Jump jump : all.jumps.get(number)) {
                int d = all.from.get(jump.to) - jump.behind;
                if (!jump.wide) {
                    out.add(!jump.test ? 235 : jump.turned ? 113 : 112);
                    out.add(d & 255);
                } else {
                    if (jump.test) out.add(15);
                    out.add(!jump.test ? 233 : jump.turned ? 129 : 128);
                    word(out, d);
                }
            }
        }
        all.table = out.size();
        for (int number : all.row) {
            if (blocks.get(number).kind == 6) {
                word(out, all.from.get(number));
                word(out, all.from.get(blocks.get(number).ways[1]));
            }
        }
        for (int number : all.row) all.at.put(all.from.get(number), number);
    }

    int row(int i) {
        Laid all = lay();
        return i >= 0 && i < all.row.size() ? all.row.get(i) : NONE;
    }

    int laid(int block, int what) {
        if (!is(block) || what < 0 || what > 5) return BAD;
        Laid all = lay();
        int wide = 0, turn = 0;
        for (Jump jump : all.jumps.get(block)) {
            wide += jump.wide ? 1 : 0;
            turn = Math.max(turn, jump.turn);
        }
        int bytes = all.behind.get(block) - all.from.get(block) - blocks.get(block).size;
        return new int[] {all.from.get(block), all.behind.get(block), bytes, wide, all.jumps.get(block).size(), turn}[what];
    }

    int image(int i) {
        Laid all = lay();
        return i >= 0 && i < all.bytes.size() ? all.bytes.get(i) : NONE;
    }

    int told(int what) {
        if (what < 0 || what > 5) return BAD;
        Laid all = lay();
        int[] sorts = new int[2];
        for (List<Jump> jumps : all.jumps.values()) for (Jump jump : jumps) sorts[jump.wide ? 1 : 0]++;
        return new int[] {all.bytes.size(), all.gaps, sorts[0], sorts[1], all.turns, all.bytes.size() - all.table}[what];
    }

    int say(long bytes, int n) {
        if (n < 1 || n > 8) return BAD;
        if (tape.size() + n > 200) return FULL;
        for (int i = n; i > 0; i--) tape.add((int) (bytes >> 8 * (i - 1) & 255));
        return tape.size();
    }

    int tear() {
        int was = tape.size();
        tape.clear();
        return was;
    }

    int choice(Ran ran) {
        int i = ran.choices++;
        return i < tape.size() ? tape.get(i) : 0;
    }

    int way(Ran ran, Block b, int way) {
        ran.taken.merge(b.number + " " + way, 1, Integer::sum);
        return b.ways[way];
    }

    Ran plain(int block) {
        Ran ran = new Ran();
        List<Block> open = new ArrayList<>();
        int at = block;
        while (true) {
            if (ran.passed.size() == 200) {
                ran.how = 3;
                return ran;
            }
            ran.passed.add(at);
            Block b = blocks.get(at);
            if (b.kind == 1 || b.kind == 0 && open.isEmpty() || b.kind == 5 && open.size() == 8) {
                ran.how = b.kind == 5 ? 2 : b.kind;
                return ran;
            }
            if (b.kind == 0) at = way(ran, open.remove(open.size() - 1), 0);
            if (b.kind == 2) at = way(ran, b, 0);
            if (b.kind == 3) at = way(ran, b, choice(ran) % 2);
            if (b.kind == 4) at = way(ran, b, choice(ran) % b.ways.length);
            if (b.kind == 6) at = way(ran, b, choice(ran) == 255 ? 1 : 0);
            if (b.kind == 5) {
                open.add(b);
                ran.deepest = Math.max(ran.deepest, open.size());
                at = own(b.called).get(0);
            }
        }
    }

    static int read(Laid all, int at, int n) {
        int value = 0;
        for (int i = n - 1; i >= 0; i--) value = value << 8 | all.bytes.get(at + i);
        return n == 1 ? (byte) value : value;
    }

    Ran laidRun(int block) {
        Laid all = lay();
        Ran ran = new Ran();
        List<int[]> open = new ArrayList<>();
        int at = all.from.get(block);
        while (at >= 0) {
            if (ran.passed.size() == 200) {
                ran.how = 3;
                break;
            }
            int now = all.at.get(at);
            ran.passed.add(now);
            ran.pages.add(at / 64);
            at = afterEnd(all, ran, open, now);
        }
        ran.missed = missed(ran, k);
        ran.cost = 2 * ran.jumps + ran.jumped + ran.stayed + 2 * ran.jumped + 50 * ran.missed;
        return ran;
    }

    int afterEnd(Laid all, Ran ran, List<int[]> open, int block) {
        for (int i = all.table; i < all.bytes.size(); i += 8) {
            if (read(all, i, 4) == all.from.get(block) && choice(ran) == 255) return read(all, i + 4, 4);
        }
        int now = block, at = all.from.get(block) + blocks.get(block).size;
        while (at < all.behind.get(now)) {
            int code = all.bytes.get(at);
            if (code == 204) {
                ran.how = 1;
                return -1;
            } else if (code == 195 && open.isEmpty()) {
                ran.how = 0;
                return -1;
            } else if (code == 195) {
                int[] call = open.remove(open.size() - 1);
                now = call[0];
                at = call[1];
            } else if (code == 235 || code == 233) {
                ran.jumps++;
                return code == 235 ? at + 2 + read(all, at + 1, 1) : at + 5 + read(all, at + 1, 4);
            } else if (code == 232 && open.size() == 8) {
                ran.how = 2;
                return -1;
            } else if (code == 232) {
                open.add(new int[] {now, at + 5});
                ran.deepest = Math.max(ran.deepest, open.size());
                return at + 5 + read(all, at + 1, 4);
            } else if (code == 255) {
                int from = (at + 2 + 3) / 4 * 4;
                return read(all, from + 4 * (choice(ran) % ((all.behind.get(now) - from) / 4)), 4);
            } else {
                boolean wide = code == 15;
                int sort = wide ? all.bytes.get(at + 1) - 128 : code - 112;
                int behind = at + (wide ? 6 : 2);
                if (choice(ran) % 2 == sort) {
                    ran.jumped++;
                    return behind + (wide ? read(all, at + 2, 4) : read(all, at + 1, 1));
                }
                ran.stayed++;
                at = behind;
            }
        }
        return all.from.get(all.next(now));
    }

    static int missed(Ran ran, int k) {
        List<Integer> held = new ArrayList<>();
        int missed = 0;
        for (Integer page : ran.pages) {
            if (!held.remove(page)) missed++;
            held.add(page);
            if (held.size() > k) held.remove(0);
        }
        return missed;
    }

    int run(int block, int how) {
        if (!is(block) || how < 0 || how > 1) return BAD;
        latest[how] = how == 0 ? plain(block) : laidRun(block);
        if (how == 0) stale = false;
        return latest[how].how;
    }

    int ran(int how, int what) {
        if (how < 0 || how > 1 || what < 0 || what > 8) return BAD;
        Ran ran = latest[how];
        if (ran == null) return NONE;
        return new int[] {ran.how, ran.passed.size(), ran.choices, ran.deepest, ran.cost, ran.jumps, ran.jumped,
            ran.stayed, ran.missed}[what];
    }

    int passed(int how, int i) {
        if (how < 0 || how > 1) return BAD;
        Ran ran = latest[how];
        return ran == null || i < 0 || i >= ran.passed.size() ? NONE : ran.passed.get(i);
    }

    int learn() {
        if (latest[0] == null || stale) return STATE;
        for (Block b : blocks) {
            for (int w = 0; w < b.ways.length; w++) b.counts[w] = latest[0].taken.getOrDefault(b.number + " " + w, 0);
        }
        return latest[0].passed.size();
    }

    int pages(int kept) {
        if (kept < 0 || kept > 8) return BAD;
        return latest[1] == null ? STATE : missed(latest[1], kept);
    }

    int differ() {
        for (Block b : blocks) {
            Ran one = plain(b.number), other = laidRun(b.number);
            if (one.how != other.how || !one.passed.equals(other.passed)) return b.number;
        }
        return NONE;
    }

    int has(int what) {
        if (what < 0 || what > 6) return BAD;
        return new int[] {orders.size(), blocks.size(), tape.size(), apart ? 1 : 0, align, k, undos.size()}[what];
    }
}
