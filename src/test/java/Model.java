import java.util.ArrayDeque;
import java.util.ArrayList;
import java.util.Deque;
import java.util.HashMap;
import java.util.List;
import java.util.Map;
import java.util.TreeMap;

/**
 * The document read a second time, with the Java library and without regard to room: here a node knows of a frame
 * only the bytes that came to it. Random runs are compared with it.
 */
final class Model {
    private enum Phase { USE, POLL, PASS, SEARCH }

    private static final class Sub {
        int who;
        int object;
        long value;
        boolean due;
    }

    private static final class Station {
        boolean on;
        int next;
        int polled;
        int count;
        int tokens;
        long sum;
        int p;
        int i;
        int input;
        int setpoint;
        final TreeMap<Integer, Integer> levels = new TreeMap<>();
        final Deque<Integer> queue = new ArrayDeque<>();
        List<Sub> subs = new ArrayList<>();
        final Map<Integer, List<Integer>> told = new HashMap<>();
        final List<int[]> notes = new ArrayList<>();

        int value(int o) {
            return o == 0 ? input : o == 2 ? setpoint : o == 1 && !levels.isEmpty() ? levels.firstEntry().getValue() : 0;
        }
    }

    private record Wish(int target, int what, int number) { }

    private final Station[] at = new Station[6];
    private final List<Wish> wishes = new ArrayList<>();
    private final List<Integer> states = new ArrayList<>();
    private final List<Integer> answers = new ArrayList<>();
    private final List<Integer> tries = new ArrayList<>();
    private List<List<Integer>> air = new ArrayList<>();
    private int[] plan;
    private Integer holder;
    private Phase phase;
    private int sent;
    private int failedPasses;
    private int silence;
    private int steps;
    private int frames;

    Model() {
        for (int n = 0; n < 6; n++) {
            at[n] = new Station();
            at[n].next = n;
            at[n].polled = n;
        }
    }

    boolean power(int n, boolean on) {
        if (n < 0 || n > 5 || at[n].on == on) {
            return false;
        }
        at[n].on = on;
        if (on) {
            at[n].next = n;
            at[n].polled = n;
            at[n].count = 0;
            at[n].sum = 0;
            at[n].subs = new ArrayList<>();
        } else if (holder != null && holder == n) {
            holder = null;
            silence = 0;
        }
        return true;
    }

    boolean sense(int n, int value) {
        if (n < 0 || n > 5 || value < -10000 || value > 10000) {
            return false;
        }
        at[n].input = value;
        return true;
    }

    boolean gains(int n, int p, int i) {
        if (n < 0 || n > 5 || p < 0 || p > 100 || i < 0 || i > 100) {
            return false;
        }
        at[n].p = p;
        at[n].i = i;
        at[n].sum = 0;
        return true;
    }

    int request(int n, int target, int what, int value) {
        if (n < 0 || n > 5 || target < 0 || target > 5 || n == target || what < 0 || what > 2047) {
            return -1;
        }
        if (at[n].queue.size() == 4 || wishes.size() == 60) {
            return -2;
        }
        wishes.add(new Wish(target, what, value));
        states.add(0);
        answers.add(0);
        tries.add(0);
        at[n].queue.addLast(wishes.size() - 1);
        return wishes.size() - 1;
    }

    boolean spoil(int which, int where, int mask) {
        if (which < 0 || which > 1 || where < 0 || where > 17 || mask < 1 || mask > 255) {
            return false;
        }
        plan = new int[] {which, where, mask};
        return true;
    }

    int step() {
        steps++;
        air = new ArrayList<>();
        if (holder == null) {
            silent();
        } else {
            boolean more = true;
            while (more) {
                more = switch (phase) {
                    case USE -> use();
                    case POLL -> poll();
                    case PASS -> pass();
                    case SEARCH -> search();
                };
            }
        }
        plan = null;
        frames += air.size();
        for (Station s : at) {
            finish(s);
        }
        return air.size();
    }

    private void silent() {
        silence++;
        for (int m = 0; m < 6; m++) {
            if (at[m].on) {
                if (silence >= 4 + 2 * m) {
                    holder = m;
                    at[m].next = m;
                    at[m].polled = m;
                    phase = Phase.SEARCH;
                    silence = 0;
                }
                return;
            }
        }
    }

    private void finish(Station s) {
        if (!s.on) {
            return;
        }
        if (s.p + s.i > 0) {
            long e = s.setpoint - s.input;
            s.sum = Math.min(10000, Math.max(-10000, s.sum + e));
            long out = (s.p * e + s.i * s.sum) >> 4;
            s.levels.put(15, (int) Math.min(1000, Math.max(-1000, out)));
        }
        for (Sub sub : s.subs) {
            sub.due = Math.abs(s.value(sub.object) - sub.value) > 9;
        }
    }

    private boolean use() {
        Station h = at[holder];
        if (sent < 2) {
            for (Sub sub : h.subs) {
                if (sub.due) {
                    sent++;
                    sub.due = false;
                    sub.value = h.value(sub.object);
                    send(6, sub.who, holder, data(5, 0, sub.object, 0, h.value(sub.object)));
                    return false;
                }
            }
            if (!h.queue.isEmpty()) {
                sent++;
                ask(h, h.queue.getFirst());
                return false;
            }
        }
        phase = h.count >= 3 || h.next == holder ? Phase.POLL : Phase.PASS;
        failedPasses = 0;
        return true;
    }

    private void ask(Station h, int id) {
        Wish w = wishes.get(id);
        List<Integer> reply = send(5, w.target, holder,
            data(w.what & 7, id, w.what >> 3 & 7, w.what >> 6, w.number));
        List<Integer> got = reply == null ? null : send(reply.get(2), reply.get(3), reply.get(4), reply.subList(8, 16));
        if (got != null) {
            h.queue.removeFirst();
            boolean right = got.get(8) >= 128;
            states.set(id, right ? 1 : 2);
            answers.set(id, right ? number(got) : 0);
            return;
        }
        tries.set(id, tries.get(id) + 1);
        if (tries.get(id) == 3) {
            states.set(id, 3);
            h.queue.removeFirst();
        }
    }

    private boolean poll() {
        Station h = at[holder];
        h.count = 0;
        int p = (h.polled + 1) % 6 == h.next ? (holder + 1) % 6 : (h.polled + 1) % 6;
        failedPasses = 0;
        if (p == h.next) {
            phase = Phase.PASS;
            return true;
        }
        join(h, p);
        phase = h.next == holder ? Phase.USE : Phase.PASS;
        sent = 0;
        return false;
    }

    private boolean pass() {
        Station h = at[holder];
        if (send(0, h.next, holder, List.of()) != null) {
            holder = h.next;
            phase = Phase.USE;
            sent = 0;
        } else if (++failedPasses == 2) {
            phase = Phase.SEARCH;
            h.polled = h.next;
            h.next = holder;
        }
        return false;
    }

    private boolean search() {
        Station h = at[holder];
        int p = (h.polled + 1) % 6;
        if (p == holder) {
            phase = Phase.USE;
            sent = 0;
        } else {
            join(h, p);
            if (h.next == p) {
                phase = Phase.PASS;
                failedPasses = 0;
            }
        }
        return false;
    }

    private void join(Station h, int p) {
        h.polled = p;
        List<Integer> reply = send(1, p, holder, List.of());
        if (reply != null && send(2, reply.get(3), reply.get(4), List.of()) != null) {
            h.next = p;
            h.polled = holder;
        }
    }

    private static List<Integer> data(int service, int id, int object, int level, int number) {
        return List.of(service, id, object, level, number >>> 24, number >>> 16 & 255, number >>> 8 & 255, number & 255);
    }

    private static int number(List<Integer> frame) {
        int sum = 0;
        for (int i = 12; i < 16; i++) {
            sum = sum * 256 + frame.get(i);
        }
        return sum;
    }

    /** Answers null if the frame did not arrive, and otherwise what the one it came to has to send back, or the frame. */
    private List<Integer> send(int type, int to, int from, List<Integer> data) {
        List<Integer> frame = build(type, to, from, data);
        if (plan != null && plan[0] == air.size() && plan[1] < frame.size()) {
            frame.set(plan[1], frame.get(plan[1]) ^ plan[2]);
        }
        air.add(frame);
        // Built anew from what it tells, a frame that is right comes out the same.
        int told = frame.get(6);
        List<Integer> rest = frame.size() > 8 ? frame.subList(8, frame.size() - 2) : List.of();
        boolean right = told == rest.size() && frame.get(5) == 0
            && frame.equals(build(frame.get(2), frame.get(3), frame.get(4), rest));
        if (!right || !at[frame.get(3)].on) {
            return null;
        }
        return receive(at[frame.get(3)], frame);
    }

    private static List<Integer> build(int type, int to, int from, List<Integer> data) {
        List<Integer> frame = new ArrayList<>(List.of(85, 255, type, to, from, 0, data.size()));
        frame.add(check(frame.subList(2, 7), 8, 129));
        if (!data.isEmpty()) {
            frame.addAll(data);
            int check = check(data, 16, 33800);
            frame.add(check % 256);
            frame.add(check / 256);
        }
        return frame;
    }

    private static int check(List<Integer> bytes, int width, int mask) {
        int c = (1 << width) - 1;
        for (int b : bytes) {
            c ^= b;
            for (int k = 0; k < 8; k++) {
                c = c % 2 == 1 ? c / 2 ^ mask : c / 2;
            }
        }
        return (1 << width) - 1 - c;
    }

    private List<Integer> receive(Station s, List<Integer> frame) {
        int type = frame.get(2);
        int from = frame.get(4);
        if (type == 0) {
            s.count++;
            s.tokens++;
        }
        if (type == 1) {
            return build(2, from, frame.get(3), List.of());
        }
        if (type == 5) {
            List<Integer> reply = s.told.get(frame.get(9));
            if (reply == null) {
                reply = obey(s, from, frame);
                s.told.put(frame.get(9), reply);
            }
            return build(6, from, frame.get(3), reply);
        }
        if (type == 6 && frame.get(8) == 5) {
            s.notes.add(new int[] {from, frame.get(10), number(frame)});
        }
        return frame;
    }

    private List<Integer> obey(Station s, int from, List<Integer> ask) {
        int service = ask.get(8);
        int object = ask.get(10);
        int level = ask.get(11);
        int number = number(ask);
        boolean leveled = object == 1 && level > 0 && level < 17;
        boolean right = false;
        int reply = number;
        if (service == 1 && object < 3) {
            right = true;
            reply = s.value(object);
        } else if (service == 2 && leveled) {
            right = true;
            s.levels.put(level, number);
        } else if (service == 2 && object == 2 && level == 0 && number >= -10000 && number <= 10000) {
            right = true;
            s.setpoint = number;
        } else if (service == 3 && leveled) {
            right = true;
            s.levels.remove(level);
        } else if (service == 4 && object < 2) {
            right = subscribe(s, from, object);
        }
        return right ? data(service + 128, ask.get(9), object, level, reply) : data(service + 64, ask.get(9), object, level, 0);
    }

    private static boolean subscribe(Station s, int who, int object) {
        Sub sub = null;
        for (Sub old : s.subs) {
            sub = old.who == who && old.object == object ? old : sub;
        }
        if (sub == null) {
            if (s.subs.size() == 3) {
                return false;
            }
            sub = new Sub();
            s.subs.add(sub);
        }
        sub.who = who;
        sub.object = object;
        sub.value = s.value(object);
        sub.due = false;
        return true;
    }

    int holder() {
        return holder == null ? -1 : holder;
    }

    int phase() {
        return holder == null ? -1 : phase.ordinal();
    }

    int node(int n, int what) {
        if (n < 0 || n > 5 || what < 0 || what > 7) {
            return -1;
        }
        Station s = at[n];
        return new int[] {s.on ? 1 : 0, s.next, s.polled, s.count, s.queue.size(), s.tokens, s.subs.size(), (int) s.sum}[what];
    }

    int value(int n, int o) {
        return n < 0 || n > 5 ? 0 : at[n].value(o);
    }

    int level(int n, int l) {
        return n < 0 || n > 5 ? 0 : at[n].levels.getOrDefault(l, 0);
    }

    boolean set(int n, int l) {
        return n >= 0 && n <= 5 && at[n].levels.containsKey(l);
    }

    int state(int r) {
        return r < 0 || r >= states.size() ? -1 : states.get(r);
    }

    int answer(int r) {
        return r < 0 || r >= answers.size() ? 0 : answers.get(r);
    }

    int noted(int n, int what) {
        if (n < 0 || n > 5 || what < 0 || what > 3) {
            return -1;
        }
        List<int[]> notes = at[n].notes;
        return what == 3 ? notes.size() : notes.isEmpty() ? -1 : notes.get(notes.size() - 1)[what];
    }

    int frame(int which, int i) {
        if (which < 0 || which > 1) {
            return -1;
        }
        List<Integer> frame = which < air.size() ? air.get(which) : List.of();
        return i == -1 ? frame.size() : i < 0 || i >= frame.size() ? -1 : frame.get(i);
    }

    int total(int what) {
        return what < 0 || what > 3 ? -1 : new int[] {steps, frames, wishes.size(), silence}[what];
    }
}
