/** A bus of six nodes on which one token goes round; ../shared/DOC.md numbers what it promises. */
public final class TokenBus {
    public static final int REFUSED = -1;
    public static final int FULL = -2;

    private static final int NODES = 6;
    private static final int NONE = -1;
    private static final int MOST_REQUESTS = 60;
    private static final int MOST_QUEUED = 4;
    private static final int MOST_SUBSCRIPTIONS = 3;
    private static final int MOST_SENT_IN_USE = 2;
    private static final int MOST_TRIES = 3;
    private static final int MOST_PASSES = 2;
    private static final int COUNT_TO_POLL = 3;
    private static final int LARGEST_WHAT = 2047;
    private static final int LARGEST_GAIN = 100;
    private static final int LARGEST_INPUT = 10000;
    private static final int LARGEST_CONTROL = 1000;
    private static final int LEVELS = 16;
    private static final int CONTROL_LEVEL = 15;
    private static final int NOTABLE_CHANGE = 10;

    private static final int USE = 0;
    private static final int POLL = 1;
    private static final int PASS = 2;
    private static final int SEARCH = 3;

    private static final int TOKEN_FRAME = 0;
    private static final int POLL_FRAME = 1;
    private static final int HERE_FRAME = 2;
    private static final int ASK_FRAME = 5;
    private static final int TELL_FRAME = 6;

    private static final int READ = 1;
    private static final int WRITE = 2;
    private static final int RELEASE = 3;
    private static final int SUBSCRIBE = 4;
    private static final int NOTICE = 5;
    private static final int DONE_MARK = 128;
    private static final int ERROR_MARK = 64;

    private static final int INPUT = 0;
    private static final int OUTPUT = 1;
    private static final int LOOP = 2;

    private static final int WAITING = 0;
    private static final int ANSWERED = 1;
    private static final int IN_ERROR = 2;
    private static final int GIVEN_UP = 3;

    private final Node[] nodes = new Node[NODES];
    private final Request[] requests = new Request[MOST_REQUESTS];
    private final Frame there = new Frame();
    private final Frame back = new Frame();
    private int requestsMade;
    private int holding = NONE;
    private int phaseNow;
    private int sentInUse;
    private int passesTried;
    private int silence;
    private int stepsMade;
    private int framesInStep;
    private int framesSent;

    public TokenBus() {
        for (int n = 0; n < NODES; n++) {
            nodes[n] = new Node(n);
        }
    }

    public boolean power(int n, boolean on) {
        if (!isNode(n) || nodes[n].powered == on) {
            return false;
        }
        if (on) {
            nodes[n].getPower();
        } else {
            nodes[n].powered = false;
            loseTokenOf(n);
        }
        return true;
    }

    public boolean sense(int n, int value) {
        if (!isNode(n) || !isWithin(value, -LARGEST_INPUT, LARGEST_INPUT)) {
            return false;
        }
        nodes[n].input = value;
        return true;
    }

    public boolean gains(int n, int p, int i) {
        if (!isNode(n) || !isWithin(p, 0, LARGEST_GAIN) || !isWithin(i, 0, LARGEST_GAIN)) {
            return false;
        }
        nodes[n].loop.tune(p, i);
        return true;
    }

    public int request(int n, int target, int what, int value) {
        if (!isNode(n) || !isNode(target) || n == target || !isWithin(what, 0, LARGEST_WHAT)) {
            return REFUSED;
        }
        if (nodes[n].queued >= MOST_QUEUED || requestsMade >= MOST_REQUESTS) {
            return FULL;
        }
        int r = requestsMade;
        requests[r] = new Request(r, target, what, value);
        requestsMade = r + 1;
        nodes[n].enqueue(requests[r]);
        return r;
    }

    public boolean spoil(int which, int at, int mask) {
        if (!isWithin(which, 0, 1) || !isWithin(at, 0, Frame.LONGEST - 1) || !isWithin(mask, 1, 255)) {
            return false;
        }
        forgetSpoiling();
        numbered(which).planSpoiling(at, mask);
        return true;
    }

    public int step() {
        beginStep();
        if (holding == NONE) {
            waitInSilence();
        } else if (phaseNow == SEARCH) {
            search(nodes[holding]);
        } else {
            // USE goes on with POLL or PASS and POLL only with PASS: once through them in this order is enough.
            Node h = nodes[holding];
            boolean goesOn = phaseNow != USE || use(h);
            if (goesOn && phaseNow == POLL) {
                goesOn = poll(h);
            }
            if (goesOn) {
                pass(h);
            }
        }
        endStep();
        return framesInStep;
    }

    public int holder() {
        return holding;
    }

    public int phase() {
        return holding == NONE ? NONE : phaseNow;
    }

    public int node(int n, int what) {
        return isNode(n) ? nodes[n].fact(what) : REFUSED;
    }

    public int value(int n, int o) {
        return isNode(n) ? nodes[n].objectValue(o) : 0;
    }

    public int level(int n, int l) {
        return isNode(n) ? nodes[n].output.numberAt(l) : 0;
    }

    public boolean set(int n, int l) {
        return isNode(n) && nodes[n].output.isFilled(l);
    }

    public int state(int r) {
        return isRequest(r) ? requests[r].standing : REFUSED;
    }

    public int answer(int r) {
        return isRequest(r) && requests[r].standing == ANSWERED ? requests[r].reply : 0;
    }

    public int noted(int n, int what) {
        return isNode(n) ? nodes[n].notedFact(what) : REFUSED;
    }

    public int frame(int which, int i) {
        return isWithin(which, 0, 1) ? numbered(which).byteOrSize(i) : REFUSED;
    }

    public int total(int what) {
        switch (what) {
            case 0: return stepsMade;
            case 1: return framesSent;
            case 2: return requestsMade;
            case 3: return silence;
            default: return REFUSED;
        }
    }

    private static boolean isWithin(int number, int least, int greatest) {
        return number >= least && number <= greatest;
    }

    private static int held(int number, int bound) {
        return Math.max(-bound, Math.min(bound, number));
    }

    private static boolean isNode(int n) {
        return isWithin(n, 0, NODES - 1);
    }

    private static int behind(int n) {
        return n + 1 < NODES ? n + 1 : 0;
    }

    private boolean isRequest(int r) {
        return r >= 0 && r < requestsMade;
    }

    private Frame numbered(int which) {
        return which == 0 ? there : back;
    }

    private void forgetSpoiling() {
        there.forgetSpoiling();
        back.forgetSpoiling();
    }

    private void beginStep() {
        stepsMade++;
        framesInStep = 0;
        there.empty();
        back.empty();
    }

    private void endStep() {
        framesSent += framesInStep;
        forgetSpoiling();
        for (Node n : nodes) {
            if (n.powered) {
                n.runLoop();
                n.findDue();
            }
        }
    }

    private void loseTokenOf(int n) {
        if (holding == n) {
            holding = NONE;
            silence = 0;
        }
    }

    private void waitInSilence() {
        silence++;
        int least = leastPowered();
        if (least == NONE || silence < 4 + 2 * least) {
            return;
        }
        holding = least;
        nodes[least].forgetOthers();
        phaseNow = SEARCH;
        silence = 0;
    }

    private int leastPowered() {
        for (int n = 0; n < NODES; n++) {
            if (nodes[n].powered) {
                return n;
            }
        }
        return NONE;
    }

    /** Answers, as poll does, whether the step goes on with the phase that is now. */
    private boolean use(Node h) {
        Subscription due = h.firstDue();
        if (sentInUse < MOST_SENT_IN_USE && (due != null || h.queued > 0)) {
            sentInUse++;
            if (due != null) {
                sendNotice(h, due);
            } else {
                sendRequest(h, h.queue[0]);
            }
            return false;
        }
        if (h.count >= COUNT_TO_POLL || h.next == h.number) {
            phaseNow = POLL;
        } else {
            enterPass();
        }
        return true;
    }

    private boolean poll(Node h) {
        h.count = 0;
        int p = behind(h.polled);
        if (p == h.next) {
            p = behind(h.number);
        }
        if (p == h.next) {
            enterPass();
            return true;
        }
        askToJoin(h, p);
        if (h.next == h.number) {
            enterUse();
        } else {
            enterPass();
        }
        return false;
    }

    private void pass(Node h) {
        there.writeHeader(TOKEN_FRAME, h.next, h.number, 0);
        if (arrives(there)) {
            holding = h.next;
            nodes[h.next].getToken();
            enterUse();
            return;
        }
        passesTried++;
        if (passesTried >= MOST_PASSES) {
            phaseNow = SEARCH;
            h.polled = h.next;
            h.next = h.number;
        }
    }

    private void search(Node h) {
        int p = behind(h.polled);
        if (p == h.number) {
            enterUse();
            return;
        }
        askToJoin(h, p);
        if (h.next == p) {
            enterPass();
        }
    }

    private void enterUse() {
        phaseNow = USE;
        sentInUse = 0;
    }

    private void enterPass() {
        phaseNow = PASS;
        passesTried = 0;
    }

    private void askToJoin(Node h, int p) {
        h.polled = p;
        there.writeHeader(POLL_FRAME, p, h.number, 0);
        if (!arrives(there)) {
            return;
        }
        back.writeHeader(HERE_FRAME, h.number, p, 0);
        if (arrives(back)) {
            h.next = p;
            h.polled = h.number;
        }
    }

    private void sendNotice(Node h, Subscription due) {
        int now = h.objectValue(due.object);
        due.renew(now);
        there.writeHeader(TELL_FRAME, due.subscriber, h.number, Frame.DATA);
        there.writeData(NOTICE, 0, due.object, 0, now);
        if (arrives(there)) {
            nodes[due.subscriber].note(h.number, due.object, now);
        }
    }

    private void sendRequest(Node h, Request r) {
        writeAsk(h, r);
        boolean answerCame = false;
        if (arrives(there)) {
            if (!r.reached) {
                nodes[r.target].carryOut(r, h.number);
            }
            writeAnswer(h, r);
            answerCame = arrives(back);
        }
        if (answerCame) {
            r.standing = r.done ? ANSWERED : IN_ERROR;
        } else {
            r.countTry();
        }
        if (r.standing != WAITING) {
            h.dequeue();
        }
    }

    private void writeAsk(Node h, Request r) {
        there.writeHeader(ASK_FRAME, r.target, h.number, Frame.DATA);
        there.writeData(r.service, r.id, r.object, r.level, r.number);
    }

    private void writeAnswer(Node h, Request r) {
        int service = r.service + (r.done ? DONE_MARK : ERROR_MARK);
        back.writeHeader(TELL_FRAME, h.number, r.target, Frame.DATA);
        back.writeData(service, r.id, r.object, r.level, r.reply);
    }

    private boolean arrives(Frame f) {
        framesInStep++;
        f.spoilAsPlanned();
        int to = f.destination();
        return f.isRight() && isNode(to) && nodes[to].powered;
    }

    /** One of the two frames of a step, kept and written anew in each step. */
    private static final class Frame {
        static final int HEADER = 8;
        static final int DATA = 8;
        static final int LONGEST = HEADER + DATA + 2;

        final int[] bytes = new int[LONGEST];
        int size;
        int spoilAt;
        int spoilMask;

        void empty() {
            size = 0;
        }

        void planSpoiling(int at, int mask) {
            spoilAt = at;
            spoilMask = mask;
        }

        void forgetSpoiling() {
            spoilMask = 0;
        }

        void writeHeader(int type, int to, int from, int dataSize) {
            bytes[0] = 85;
            bytes[1] = 255;
            bytes[2] = type;
            bytes[3] = to;
            bytes[4] = from;
            bytes[5] = 0;
            bytes[6] = dataSize;
            bytes[7] = headerCheck();
            size = HEADER;
        }

        void writeData(int service, int id, int object, int level, int number) {
            bytes[8] = service;
            bytes[9] = id;
            bytes[10] = object;
            bytes[11] = level;
            bytes[12] = number >> 24 & 255;
            bytes[13] = number >> 16 & 255;
            bytes[14] = number >> 8 & 255;
            bytes[15] = number & 255;
            int check = dataCheck();
            bytes[16] = check & 255;
            bytes[17] = check >> 8;
            size = LONGEST;
        }

        void spoilAsPlanned() {
            if (spoilMask != 0 && spoilAt < size) {
                bytes[spoilAt] ^= spoilMask;
            }
        }

        boolean isRight() {
            if (bytes[0] != 85 || bytes[1] != 255 || bytes[7] != headerCheck()) {
                return false;
            }
            if (bytes[6] == 0) {
                return true;
            }
            return bytes[6] == DATA && size == LONGEST && bytes[16] + (bytes[17] << 8) == dataCheck();
        }

        int destination() {
            return bytes[3];
        }

        int byteOrSize(int i) {
            if (i == -1) {
                return size;
            }
            return i >= 0 && i < size ? bytes[i] : REFUSED;
        }

        private int headerCheck() {
            return checkOf(2, 7, 255, 129);
        }

        private int dataCheck() {
            return checkOf(HEADER, HEADER + DATA, 65535, 33800);
        }

        private int checkOf(int from, int to, int start, int mask) {
            int c = start;
            for (int i = from; i < to; i++) {
                for (int bit = 0; bit < 8; bit++) {
                    boolean differs = ((c ^ bytes[i] >> bit) & 1) != 0;
                    c = differs ? c >> 1 ^ mask : c >> 1;
                }
            }
            return start - c;
        }
    }

    private static final class Request {
        final int id;
        final int target;
        final int service;
        final int object;
        final int level;
        final int number;
        int standing = WAITING;
        int tries;
        /** Whether the target got the ASK: what it did and answers is settled from then on. */
        boolean reached;
        boolean done;
        int reply;

        Request(int id, int target, int what, int number) {
            this.id = id;
            this.target = target;
            this.service = what % 8;
            this.object = what / 8 % 8;
            this.level = what / 64;
            this.number = number;
        }

        void settle(boolean wasDone, int answered) {
            reached = true;
            done = wasDone;
            reply = wasDone ? answered : 0;
        }

        void countTry() {
            tries++;
            if (tries >= MOST_TRIES) {
                standing = GIVEN_UP;
            }
        }
    }

    /** A subscription to an object of the node that keeps it. */
    private static final class Subscription {
        int subscriber;
        int object;
        int lastValue;
        boolean isDue;

        void begin(int node, int toObject, int now) {
            subscriber = node;
            object = toObject;
            renew(now);
        }

        void renew(int now) {
            lastValue = now;
            isDue = false;
        }

        void compare(int now) {
            // Outputs may be any ints, so their difference may not be one.
            isDue = Math.abs((long) now - lastValue) >= NOTABLE_CHANGE;
        }
    }

    private static final class Output {
        final int[] numbers = new int[LEVELS];
        final boolean[] filled = new boolean[LEVELS];

        boolean isFilled(int l) {
            return isWithin(l, 1, LEVELS) && filled[l - 1];
        }

        int numberAt(int l) {
            return isFilled(l) ? numbers[l - 1] : 0;
        }

        boolean fill(int l, int number) {
            if (!isWithin(l, 1, LEVELS)) {
                return false;
            }
            numbers[l - 1] = number;
            filled[l - 1] = true;
            return true;
        }

        boolean release(int l) {
            if (!isWithin(l, 1, LEVELS)) {
                return false;
            }
            filled[l - 1] = false;
            return true;
        }

        int current() {
            for (int k = 0; k < LEVELS; k++) {
                if (filled[k]) {
                    return numbers[k];
                }
            }
            return 0;
        }
    }

    private static final class Loop {
        int setpoint;
        int gainP;
        int gainI;
        int sum;

        void tune(int p, int i) {
            gainP = p;
            gainI = i;
            sum = 0;
        }

        boolean aim(int number) {
            if (!isWithin(number, -LARGEST_INPUT, LARGEST_INPUT)) {
                return false;
            }
            setpoint = number;
            return true;
        }

        boolean isOff() {
            return gainP == 0 && gainI == 0;
        }

        int control(int input) {
            int e = setpoint - input;
            sum = held(sum + e, LARGEST_INPUT);
            return held(Math.floorDiv(gainP * e + gainI * sum, 16), LARGEST_CONTROL);
        }
    }

    private static final class Node {
        final int number;
        final Output output = new Output();
        final Loop loop = new Loop();
        final Request[] queue = new Request[MOST_QUEUED];
        final Subscription[] subscriptions = new Subscription[MOST_SUBSCRIPTIONS];
        boolean powered;
        int next;
        int polled;
        int count;
        int tokens;
        int input;
        int queued;
        int subscribed;
        int notedNode;
        int notedObject;
        int notedValue;
        int notices;

        Node(int number) {
            this.number = number;
            this.next = number;
            this.polled = number;
            for (int k = 0; k < MOST_SUBSCRIPTIONS; k++) {
                subscriptions[k] = new Subscription();
            }
        }

        void getPower() {
            powered = true;
            forgetOthers();
            count = 0;
            loop.sum = 0;
            subscribed = 0;
        }

        void forgetOthers() {
            next = number;
            polled = number;
        }

        void getToken() {
            count++;
            tokens++;
        }

        void enqueue(Request r) {
            if (queued < MOST_QUEUED) {
                queue[queued] = r;
                queued++;
            }
        }

        void dequeue() {
            if (queued > 0) {
                queued--;
                for (int k = 0; k < queued; k++) {
                    queue[k] = queue[k + 1];
                }
            }
        }

        int objectValue(int o) {
            switch (o) {
                case INPUT: return input;
                case OUTPUT: return output.current();
                case LOOP: return loop.setpoint;
                default: return 0;
            }
        }

        void carryOut(Request r, int asker) {
            switch (r.service) {
                case READ:
                    r.settle(isWithin(r.object, INPUT, LOOP), objectValue(r.object));
                    break;
                case WRITE:
                    r.settle(write(r), r.number);
                    break;
                case RELEASE:
                    r.settle(r.object == OUTPUT && output.release(r.level), r.number);
                    break;
                case SUBSCRIBE:
                    r.settle(isWithin(r.object, INPUT, OUTPUT) && subscribe(asker, r.object), r.number);
                    break;
                default:
                    r.settle(false, 0);
            }
        }

        private boolean write(Request r) {
            if (r.object == OUTPUT) {
                return output.fill(r.level, r.number);
            }
            return r.object == LOOP && r.level == 0 && loop.aim(r.number);
        }

        private boolean subscribe(int asker, int object) {
            int now = objectValue(object);
            for (int k = 0; k < subscribed; k++) {
                if (subscriptions[k].subscriber == asker && subscriptions[k].object == object) {
                    subscriptions[k].renew(now);
                    return true;
                }
            }
            if (subscribed >= MOST_SUBSCRIPTIONS) {
                return false;
            }
            subscriptions[subscribed].begin(asker, object, now);
            subscribed++;
            return true;
        }

        Subscription firstDue() {
            for (int k = 0; k < subscribed; k++) {
                if (subscriptions[k].isDue) {
                    return subscriptions[k];
                }
            }
            return null;
        }

        void note(int whose, int object, int now) {
            notedNode = whose;
            notedObject = object;
            notedValue = now;
            notices++;
        }

        void runLoop() {
            if (!loop.isOff()) {
                output.fill(CONTROL_LEVEL, loop.control(input));
            }
        }

        void findDue() {
            for (int k = 0; k < subscribed; k++) {
                subscriptions[k].compare(objectValue(subscriptions[k].object));
            }
        }

        int fact(int what) {
            switch (what) {
                case 0: return powered ? 1 : 0;
                case 1: return next;
                case 2: return polled;
                case 3: return count;
                case 4: return queued;
                case 5: return tokens;
                case 6: return subscribed;
                case 7: return loop.sum;
                default: return REFUSED;
            }
        }

        int notedFact(int what) {
            if (what == 3) {
                return notices;
            }
            if (notices == 0) {
                return REFUSED;
            }
            switch (what) {
                case 0: return notedNode;
                case 1: return notedObject;
                case 2: return notedValue;
                default: return REFUSED;
            }
        }
    }
}
