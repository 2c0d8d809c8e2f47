import java.util.Arrays;

/** A hall in which a ticket is a person's own. The document ../shared/DOC.md says what each call promises. */
public final class TicketHall {
    public static final int NONE = -1;

    private static final int BAD_NUMBER = -1;
    private static final int NO_SUCH = -2;
    private static final int CANNOT = -3;
    private static final int NO_ROOM = -5;
    private static final int BAD_TEXT = -6;

    private static final int MOST_PEOPLE = 6;
    private static final int MOST_TICKETS = 8;
    private static final int MOST_DESKS = 3;
    private static final int MOST_TOLD = 6;
    private static final int MOST_LAWS = 6;
    private static final int MOST_CLAUSES = 12;
    private static final int MOST_BYTES = 400;
    private static final int LAST_MINUTE = 999;
    private static final int ALL_DESKS = 7;

    private static final int MINUTE = 0;
    private static final int COMES = 1;
    private static final int MOOD = 2;

    private static final int TAKES = 0;
    private static final int COSTS = 1;
    private static final int FITS = 2;
    private static final int BARS = 3;

    private static final int DRAW = 0;
    private static final int SWAP = 1;
    private static final int DROP = 2;
    private static final int PASS = 3;

    private static final int BROKEN = -2000000000;
    private static final long WHOLE_CHANCE = 1000000000000L;

    private final Hall hall = new Hall();
    private final Hall paper = new Hall();
    private final Hall[] images = new Hall[2];
    private final boolean[] kept = new boolean[2];
    private final Reader reader = new Reader();
    private final Judge judge = new Judge(hall);
    private final Acts acts = new Acts(judge);
    private final Day day = new Day();
    private final Plan plan = new Plan(judge, day);
    private final Trade trades = new Trade();
    private final Run run = new Run(judge, acts);
    private final int[] refusals = new int[5];
    private final int[] drawnTickets = new int[MOST_PEOPLE];
    private final long[] chances = new long[20];
    private int latestStatus;
    private int latestScraps;
    private int stoppedAt = NONE;

    public TicketHall() {
        images[0] = new Hall();
        images[1] = new Hall();
        Arrays.fill(drawnTickets, NONE);
    }

    public int person(int business, int patience) {
        int result = hall.addPerson(business, patience);
        if (result < 0) {
            return refused(result);
        }
        hall.log.clear();
        return accepted(result);
    }

    public int of(int person, int what) {
        if (!hall.isPerson(person)) {
            return NONE;
        }
        switch (what) {
            case 0:
                return hall.business[person];
            case 1:
                return hall.patience[person];
            case 2:
                return hall.holds[person];
            case 3:
                judge.begin(hall, hall.lawInForce());
                return judge.cost(person);
            default:
                return NONE;
        }
    }

    public int ticket(int number, int kind) {
        int result = hall.addTicket(number, kind);
        if (result < 0) {
            return refused(result);
        }
        hall.log.clear();
        return accepted(result);
    }

    public int at(int ticket, int what) {
        if (!hall.isTicket(ticket)) {
            return NONE;
        }
        switch (what) {
            case 0:
                return hall.number[ticket];
            case 1:
                return hall.kind[ticket];
            case 2:
                return hall.holder[ticket];
            default:
                return NONE;
        }
    }

    public int wish(int person, int ticket, int value) {
        if (value < 0 || value > 9) {
            return refused(BAD_NUMBER);
        }
        if (!hall.isPerson(person) || !hall.isTicket(ticket)) {
            return refused(NO_SUCH);
        }
        int cell = person * MOST_TICKETS + ticket;
        int was = hall.wishes[cell];
        hall.wishes[cell] = value;
        return accepted(was);
    }

    public int desk(int opens, int speed) {
        int result = hall.addDesk(opens, speed);
        return result < 0 ? refused(result) : accepted(result);
    }

    public int asks(int person, int ticket, int what) {
        if (!hall.isPerson(person) || !hall.isTicket(ticket) || what < 0) {
            return NONE;
        }
        judge.begin(hall, hall.lawInForce());
        switch (what) {
            case 0:
                return hall.wishes[person * MOST_TICKETS + ticket];
            case 1:
                return judge.isFit(person, ticket) ? 1 : 0;
            case 2:
                return judge.isBarred(person, ticket) ? 1 : 0;
            default:
                return what - 3 < hall.desks ? judge.minutes(person, ticket, what - 3) : NONE;
        }
    }

    public int terms(int what, int value) {
        if (what < MINUTE || what > MOOD || value < 0 || value > mostOfTerm(what)) {
            return refused(BAD_NUMBER);
        }
        int was = hall.terms[what];
        hall.terms[what] = value;
        hall.log.clear();
        return accepted(was);
    }

    public int feed(int a, int b, int c, int d, int e) {
        if (reader.length + 20 > MOST_BYTES) {
            return NONE;
        }
        reader.write(a);
        reader.write(b);
        reader.write(c);
        reader.write(d);
        reader.write(e);
        return reader.length;
    }

    public int end(int n) {
        if (n < 0 || n > reader.length) {
            return NONE;
        }
        reader.length = n;
        return n;
    }

    public int row() {
        int length = reader.length;
        if (length == 0) {
            return refused(BAD_TEXT);
        }
        int came = 0;
        latestScraps = 0;
        for (int i = 0; i < length; i += 2) {
            if (i + 1 < length && hall.addTicket(reader.byteAt(i), reader.byteAt(i + 1)) >= 0) {
                came++;
            } else {
                latestScraps++;
            }
        }
        reader.length = 0;
        hall.log.clear();
        return accepted(came);
    }

    public int scraps() {
        return latestScraps;
    }

    public int law() {
        if (hall.laws >= MOST_LAWS) {
            reader.length = 0;
            return refused(NO_ROOM);
        }
        if (!reader.read(false)) {
            return refused(BAD_TEXT);
        }
        return accepted(hall.addLaw(new Text(reader.text)));
    }

    public int orders() {
        stoppedAt = NONE;
        if (!reader.read(true)) {
            return refused(BAD_TEXT);
        }
        paper.copyFrom(hall);
        judge.begin(hall, hall.lawInForce());
        stoppedAt = run.through(hall, reader.text);
        if (stoppedAt != NONE) {
            hall.copyFrom(paper);
            return refused(CANNOT);
        }
        return accepted(run.done);
    }

    public int fault() {
        return reader.fault;
    }

    public int stopped() {
        return stoppedAt;
    }

    public int force(int law) {
        if (law != NONE && !hall.isLaw(law)) {
            return refused(NO_SUCH);
        }
        int was = hall.force;
        hall.force = law;
        return accepted(was);
    }

    public int draw(int ticket, int person) {
        judge.begin(hall, hall.lawInForce());
        int result = acts.takeUp(hall, ticket, person);
        return result < 0 ? refused(result) : accepted(result);
    }

    public int swap(int one, int other) {
        judge.begin(hall, hall.lawInForce());
        int result = acts.exchange(hall, one, other);
        return result < 0 ? refused(result) : accepted(result);
    }

    public int drop(int person) {
        int result = acts.giveUp(hall, person);
        return result < 0 ? refused(result) : accepted(result);
    }

    public int pass() {
        int result = acts.tick(hall);
        return result < 0 ? refused(result) : accepted(result);
    }

    public int undo() {
        int result = hall.takeBack();
        return result < 0 ? refused(result) : accepted(result);
    }

    public int day(int person, int what) {
        if (!hall.isPerson(person) || what < 0 || what > 2) {
            return NONE;
        }
        playDay(hall.lawInForce());
        if (what == 0) {
            return day.begun[person];
        }
        return what == 1 ? day.done[person] : day.desk[person];
    }

    public int waiting(int person) {
        if (person != NONE && (!hall.isPerson(person) || hall.holds[person] == NONE)) {
            return NONE;
        }
        playDay(hall.lawInForce());
        return person == NONE ? day.waitOfAll(judge) : day.waitOf(judge, person);
    }

    public int about(int what) {
        if (what < 0 || what >= 2 + hall.people) {
            return NONE;
        }
        plan.findAbout(hall);
        if (plan.mostFit == NONE) {
            return NONE;
        }
        if (what == 0) {
            return plan.mostFit;
        }
        return what == 1 ? plan.leastWait : plan.best[what - 2];
    }

    public int trade(int person) {
        if (person != NONE && !hall.isPerson(person)) {
            return NONE;
        }
        judge.begin(hall, hall.lawInForce());
        trades.settle(judge);
        return person == NONE ? trades.rings : trades.gets[person];
    }

    public int both(int i) {
        if (i < NONE) {
            return NONE;
        }
        judge.begin(hall, hall.lawInForce());
        int found = 0;
        for (int low = 0; low < hall.people; low++) {
            for (int high = low + 1; high < hall.people; high++) {
                if (trades.bothWouldSwap(judge, low, high)) {
                    if (found == i) {
                        return low * 10 + high;
                    }
                    found++;
                }
            }
        }
        return i == NONE ? found : NONE;
    }

    public int take(int person) {
        if (!hall.isPerson(person) || hall.holds[person] != NONE) {
            return NONE;
        }
        judge.begin(hall, hall.lawInForce());
        day.line(hall);
        return plan.earliestDone(person);
    }

    public int desks(int minute, int what) {
        if (minute < 0 || minute > LAST_MINUTE || what < 0 || what > 1) {
            return NONE;
        }
        judge.begin(hall, hall.lawInForce());
        day.line(hall);
        int open = plan.fewestDesks(minute);
        if (open == NONE) {
            return NONE;
        }
        return what == 0 ? Integer.bitCount(open) : open;
    }

    public int told(int person, int minute) {
        if (minute < 0 || minute > LAST_MINUTE) {
            return refused(BAD_NUMBER);
        }
        if (!hall.isPerson(person)) {
            return refused(NO_SUCH);
        }
        if (hall.tolds >= MOST_TOLD) {
            return refused(NO_ROOM);
        }
        hall.toldPerson[hall.tolds] = person;
        hall.toldMinute[hall.tolds] = minute;
        hall.tolds++;
        return accepted(hall.tolds);
    }

    public int forget() {
        int was = hall.tolds;
        hall.tolds = 0;
        plan.markStale();
        return was;
    }

    public int had(int i, int person) {
        if (i != NONE && (i < 0 || !hall.isPerson(person) || hall.holds[person] == NONE)) {
            return NONE;
        }
        plan.findWays(hall);
        if (i == NONE) {
            return plan.ways;
        }
        return i < plan.ways ? plan.ticketIn(i, person) : NONE;
    }

    public int ask(int what) {
        if (what < 0 || what > 1) {
            return NONE;
        }
        plan.findWays(hall);
        if (plan.ways == 0) {
            return NONE;
        }
        int asked = NONE;
        int least = NONE;
        for (int p = 0; p < hall.people; p++) {
            int most = hall.holds[p] == NONE ? NONE : plan.mostWaysAlike(p);
            if (most != NONE && (least == NONE || most < least)) {
                least = most;
                asked = p;
            }
        }
        return what == 0 ? asked : least;
    }

    public long few(int k, int n) {
        if (k < 1 || k > chances.length || n < 0 || n > 99) {
            return NONE;
        }
        int comes = hall.terms[COMES];
        Arrays.fill(chances, 0L);
        chances[0] = WHOLE_CHANCE;
        for (int i = 0; i < n; i++) {
            // From above, so that what a person adds is not counted for that person again.
            for (int j = k - 1; j > 0; j--) {
                chances[j] = chances[j] * (10 - comes) / 10 + chances[j - 1] * comes / 10;
            }
            chances[0] = chances[0] * (10 - comes) / 10;
        }
        long sum = 0;
        for (int j = 0; j < k; j++) {
            sum += chances[j];
        }
        return sum;
    }

    public int compare(int law) {
        if (law != NONE && !hall.isLaw(law)) {
            return NONE;
        }
        playDay(hall.lawOf(law));
        return day.waitOfAll(judge);
    }

    public int days(int seed, int n) {
        if (seed < 0 || seed > 1000000 || n < 1 || n > 60) {
            return refused(BAD_NUMBER);
        }
        if (hall.people == 0 || hall.tickets == 0) {
            return refused(CANNOT);
        }
        paper.copyFrom(hall);
        judge.begin(paper, paper.lawInForce());
        acts.seed = seed;
        int changed = 0;
        for (int i = 0; i < n && paper.terms[MINUTE] < LAST_MINUTE; i++) {
            if (acts.byLot(paper) >= 0) {
                changed++;
            }
            acts.tick(paper);
        }
        System.arraycopy(paper.holds, 0, drawnTickets, 0, MOST_PEOPLE);
        return accepted(changed);
    }

    public int drawn(int person) {
        // The latest days outlive back(), so that whom they tell of need not be one of the people now.
        return person >= 0 && person < MOST_PEOPLE ? drawnTickets[person] : NONE;
    }

    public int image(int k) {
        if (k < 0 || k > 1) {
            return refused(BAD_NUMBER);
        }
        images[k].copyFrom(hall);
        kept[k] = true;
        return accepted(0);
    }

    public int back(int k) {
        if (k < 0 || k > 1) {
            return refused(BAD_NUMBER);
        }
        if (!kept[k]) {
            return refused(NO_SUCH);
        }
        hall.copyFrom(images[k]);
        hall.log.clear();
        return accepted(0);
    }

    public int count(int what) {
        if (what >= 8 && what <= 12) {
            return refusals[what - 8];
        }
        if (what >= 14 && what <= 16) {
            return hall.terms[what - 14];
        }
        switch (what) {
            case 0:
                return hall.people;
            case 1:
                return hall.tickets;
            case 2:
                return hall.tickets - hall.free();
            case 3:
                return hall.desks;
            case 4:
                return hall.tolds;
            case 5:
                return hall.laws;
            case 6:
                return hall.log.size;
            case 7:
                return reader.length;
            case 13:
                return hall.force;
            default:
                return NONE;
        }
    }

    public int status() {
        return latestStatus;
    }

    private int accepted(int answer) {
        latestStatus = 0;
        plan.markStale();
        return answer;
    }

    private int refused(int by) {
        latestStatus = by;
        // There is no -4 among the refusals.
        int place = by >= CANNOT ? -1 - by : -2 - by;
        if (place >= 0 && place < refusals.length) {
            refusals[place]++;
        }
        return by;
    }

    private void playDay(Text law) {
        judge.begin(hall, law);
        day.line(hall);
        day.play(judge, hall.holder, ALL_DESKS);
    }

    private static int mostOfTerm(int what) {
        if (what == MINUTE) {
            return LAST_MINUTE;
        }
        return what == COMES ? 10 : 9;
    }

    /**
     * All that an image keeps; the log is in it because orders that can't be put it back as well.
     * Behind the last person, ticket and law the rows are as in a new hall, so adding one need not clear them.
     */
    private static final class Hall {
        int people;
        final int[] business = new int[MOST_PEOPLE];
        final int[] patience = new int[MOST_PEOPLE];
        final int[] holds = new int[MOST_PEOPLE];
        final int[] wishes = new int[MOST_PEOPLE * MOST_TICKETS];
        int tickets;
        final int[] number = new int[MOST_TICKETS];
        final int[] kind = new int[MOST_TICKETS];
        final int[] holder = new int[MOST_TICKETS];
        int desks;
        final int[] opens = new int[MOST_DESKS];
        final int[] speed = new int[MOST_DESKS];
        int tolds;
        final int[] toldPerson = new int[MOST_TOLD];
        final int[] toldMinute = new int[MOST_TOLD];
        final int[] terms = new int[3];
        int laws;
        final Text[] texts = new Text[MOST_LAWS];
        int force = NONE;
        final Log log = new Log();

        Hall() {
            Arrays.fill(holds, NONE);
            Arrays.fill(holder, NONE);
            terms[COMES] = 9;
        }

        void copyFrom(Hall other) {
            people = other.people;
            System.arraycopy(other.business, 0, business, 0, MOST_PEOPLE);
            System.arraycopy(other.patience, 0, patience, 0, MOST_PEOPLE);
            System.arraycopy(other.holds, 0, holds, 0, MOST_PEOPLE);
            System.arraycopy(other.wishes, 0, wishes, 0, MOST_PEOPLE * MOST_TICKETS);
            tickets = other.tickets;
            System.arraycopy(other.number, 0, number, 0, MOST_TICKETS);
            System.arraycopy(other.kind, 0, kind, 0, MOST_TICKETS);
            System.arraycopy(other.holder, 0, holder, 0, MOST_TICKETS);
            desks = other.desks;
            System.arraycopy(other.opens, 0, opens, 0, MOST_DESKS);
            System.arraycopy(other.speed, 0, speed, 0, MOST_DESKS);
            tolds = other.tolds;
            System.arraycopy(other.toldPerson, 0, toldPerson, 0, MOST_TOLD);
            System.arraycopy(other.toldMinute, 0, toldMinute, 0, MOST_TOLD);
            System.arraycopy(other.terms, 0, terms, 0, 3);
            laws = other.laws;
            // The texts are never changed once made, so the halls may share them.
            for (int i = 0; i < MOST_LAWS; i++) {
                texts[i] = other.texts[i];
            }
            force = other.force;
            log.copyFrom(other.log);
        }

        boolean isPerson(int p) {
            return p >= 0 && p < people;
        }

        boolean isTicket(int t) {
            return t >= 0 && t < tickets;
        }

        boolean isLaw(int l) {
            return l >= 0 && l < laws;
        }

        Text lawOf(int l) {
            return isLaw(l) ? texts[l] : null;
        }

        Text lawInForce() {
            return lawOf(force);
        }

        int addPerson(int itsBusiness, int itsPatience) {
            if (itsBusiness < 0 || itsBusiness > 4 || itsPatience < 0 || itsPatience > 99) {
                return BAD_NUMBER;
            }
            if (people >= MOST_PEOPLE) {
                return NO_ROOM;
            }
            business[people] = itsBusiness;
            patience[people] = itsPatience;
            people++;
            return people - 1;
        }

        int addTicket(int itsNumber, int itsKind) {
            if (itsNumber < 1 || itsNumber > 99 || itsKind < 0 || itsKind > 4) {
                return BAD_NUMBER;
            }
            for (int t = 0; t < tickets; t++) {
                if (number[t] == itsNumber) {
                    return CANNOT;
                }
            }
            if (tickets >= MOST_TICKETS) {
                return NO_ROOM;
            }
            number[tickets] = itsNumber;
            kind[tickets] = itsKind;
            tickets++;
            return tickets - 1;
        }

        int addDesk(int itsKinds, int itsSpeed) {
            if (itsKinds < 0 || itsKinds > 31 || itsSpeed < 1 || itsSpeed > 9) {
                return BAD_NUMBER;
            }
            if (desks >= MOST_DESKS) {
                return NO_ROOM;
            }
            opens[desks] = itsKinds;
            speed[desks] = itsSpeed;
            desks++;
            return desks - 1;
        }

        int addLaw(Text text) {
            if (laws >= MOST_LAWS) {
                return NO_ROOM;
            }
            texts[laws] = text;
            laws++;
            return laws - 1;
        }

        int free() {
            int found = 0;
            for (int t = 0; t < tickets; t++) {
                if (holder[t] == NONE) {
                    found++;
                }
            }
            return found;
        }

        void give(int t, int p) {
            holder[t] = p;
            holds[p] = t;
        }

        void ungive(int t, int p) {
            holder[t] = NONE;
            holds[p] = NONE;
        }

        void cross(int one, int other) {
            int mine = holds[one];
            give(holds[other], one);
            give(mine, other);
        }

        int takeBack() {
            if (log.size == 0) {
                return CANNOT;
            }
            int entry = log.latest();
            int first = entry >> 4 & 15;
            int second = entry & 15;
            int what = entry >> 8;
            switch (what) {
                case DRAW:
                    ungive(first, second);
                    break;
                case SWAP:
                    cross(first, second);
                    break;
                case DROP:
                    give(first, second);
                    break;
                default:
                    terms[MINUTE]--;
                    break;
            }
            log.size--;
            return what;
        }
    }

    /** What can be undone: the sixteen latest acts, the oldest first. */
    private static final class Log {
        static final int MOST = 16;
        final int[] entries = new int[MOST];
        int size;

        void clear() {
            size = 0;
        }

        void add(int what, int first, int second) {
            if (size >= MOST) {
                System.arraycopy(entries, 1, entries, 0, MOST - 1);
                size = MOST - 1;
            }
            entries[size] = what << 8 | first << 4 | second;
            size++;
        }

        int latest() {
            return size > 0 ? entries[size - 1] : 0;
        }

        void copyFrom(Log other) {
            System.arraycopy(other.entries, 0, entries, 0, MOST);
            size = other.size;
        }
    }

    /** A text that was read: for each clause a head, which tells where its parts stand in the code. */
    private static final class Text {
        static final int HEAD = 5;
        static final int VERB = 0;
        static final int TIMES = 1;
        static final int TEST = 2;
        static final int FIRST = 3;
        static final int SECOND = 4;
        // A token makes at most one cell of code, and each of a clause's three parts has an end.
        static final int MOST_CODE = MOST_BYTES + 3 * MOST_CLAUSES;

        final int[] heads;
        final int[] code;
        int clauses;
        int size;
        boolean asksFit;

        Text() {
            heads = new int[MOST_CLAUSES * HEAD];
            code = new int[MOST_CODE];
        }

        Text(Text other) {
            heads = Arrays.copyOf(other.heads, other.clauses * HEAD);
            code = Arrays.copyOf(other.code, other.size);
            clauses = other.clauses;
            size = other.size;
            asksFit = other.asksFit;
        }

        void clear() {
            clauses = 0;
            size = 0;
            asksFit = false;
        }

        void open(int verb) {
            if (clauses >= MOST_CLAUSES) {
                return;
            }
            clauses++;
            mark(VERB, verb);
            mark(TIMES, 1);
            mark(TEST, NONE);
            mark(FIRST, NONE);
            mark(SECOND, NONE);
        }

        void mark(int which, int value) {
            if (clauses > 0) {
                heads[(clauses - 1) * HEAD + which] = value;
            }
        }

        int head(int clause, int which) {
            return heads[clause * HEAD + which];
        }

        int emit(int op, int value) {
            if (size >= code.length) {
                return NONE;
            }
            code[size] = op | value << Machine.OP_BITS;
            size++;
            return size - 1;
        }

        void aimHere(int cell) {
            if (cell >= 0 && cell < size) {
                code[cell] |= size << Machine.OP_BITS;
            }
        }
    }

    /** Holds the tape, and reads what stands on it by the grammar of laws or of orders. */
    private static final class Reader {
        static final String LAW_VERBS = "takes costs fits bars";
        static final String LAW_WORDS = "person business patience ticket number kind speed minute mood";
        static final String ORDER_VERBS = "draw swap drop pass";
        static final String ORDER_WORDS = "minute done latest fit free has patience";
        static final int THE_END = -1;
        static final int LETTERS = -2;
        static final int DIGITS = -3;
        static final int MOST_PARTS = 50;
        static final int MOST_BRACKETS = 8;
        static final int MOST_NUMBER = 1000;
        static final int MOST_TIMES = 20;

        final byte[] tape = new byte[MOST_BYTES];
        final Text text = new Text();
        int length;
        int fault = NONE;
        private boolean inOrders;
        private int at;
        private int start;
        private int sign;
        private int number;
        private int parts;

        void write(int four) {
            for (int shift = 24; shift >= 0; shift -= 8) {
                if (length < MOST_BYTES) {
                    tape[length] = (byte) (four >> shift);
                    length++;
                }
            }
        }

        int byteAt(int i) {
            return i >= 0 && i < length ? tape[i] & 255 : 0;
        }

        boolean read(boolean asOrders) {
            inOrders = asOrders;
            text.clear();
            parts = 0;
            fault = NONE;
            at = 0;
            advance();
            boolean more = true;
            for (int c = 0; c < MOST_CLAUSES && more; c++) {
                clause();
                more = fault == NONE && sign == ';';
                if (more) {
                    advance();
                }
            }
            if (more || sign != THE_END) {
                wrong();
            }
            length = 0;
            return fault == NONE;
        }

        private void wrong() {
            if (fault == NONE) {
                fault = start;
            }
        }

        private void clause() {
            int verb = placeIn(inOrders ? ORDER_VERBS : LAW_VERBS);
            if (verb == NONE) {
                wrong();
                return;
            }
            text.open(verb);
            advance();
            if (inOrders ? verb != PASS : verb <= COSTS) {
                markedSum(Text.FIRST);
            }
            if (inOrders && verb <= SWAP) {
                if (goesOnWith(verb == DRAW ? "by" : "with")) {
                    markedSum(Text.SECOND);
                } else {
                    wrong();
                }
            }
            if (inOrders && goesOnWith("times")) {
                times();
            }
            if (goesOnWith("if")) {
                text.mark(Text.TEST, text.size);
                anyOf(0);
                text.emit(Machine.STOP, 0);
            }
        }

        private void times() {
            if (sign == DIGITS && number >= 1 && number <= MOST_TIMES) {
                text.mark(Text.TIMES, number);
                advance();
            } else {
                wrong();
            }
        }

        private void markedSum(int which) {
            text.mark(which, text.size);
            sum(0);
            text.emit(Machine.STOP, 0);
        }

        private void anyOf(int depth) {
            allOf(depth);
            for (int i = 0; i < MOST_BYTES && goesOnWith("or"); i++) {
                int jump = text.emit(Machine.OR, 0);
                allOf(depth);
                text.aimHere(jump);
            }
        }

        private void allOf(int depth) {
            plain(depth);
            for (int i = 0; i < MOST_BYTES && goesOnWith("and"); i++) {
                int jump = text.emit(Machine.AND, 0);
                plain(depth);
                text.aimHere(jump);
            }
        }

        private void plain(int depth) {
            boolean not = false;
            // A row of these would go too deep as a recursion.
            for (int i = 0; i < MOST_BYTES && goesOnWith("not"); i++) {
                not = !not;
            }
            if (sign == '(') {
                if (opens(depth)) {
                    anyOf(depth + 1);
                    close(')');
                }
            } else {
                comparison(depth);
            }
            if (not) {
                text.emit(Machine.NOT, 0);
            }
        }

        private void comparison(int depth) {
            sum(depth);
            if (fault != NONE) {
                return;
            }
            int op = NONE;
            if (sign == '<') {
                op = Machine.LESS;
            } else if (sign == '>') {
                op = Machine.MORE;
            } else if (sign == '=') {
                op = Machine.SAME;
            }
            if (op == NONE) {
                wrong();
                return;
            }
            advance();
            sum(depth);
            text.emit(op, 0);
        }

        private void sum(int depth) {
            term(depth);
            for (int i = 0; i < MOST_BYTES && fault == NONE && (sign == '+' || sign == '-'); i++) {
                int op = sign == '+' ? Machine.PLUS : Machine.MINUS;
                advance();
                term(depth);
                text.emit(op, 0);
            }
        }

        private void term(int depth) {
            part(depth);
            for (int i = 0; i < MOST_BYTES && fault == NONE && (sign == '*' || sign == '/' || sign == '%'); i++) {
                int op = Machine.TIMES;
                if (sign == '/') {
                    op = Machine.BY;
                } else if (sign == '%') {
                    op = Machine.REST;
                }
                advance();
                part(depth);
                text.emit(op, 0);
            }
        }

        private void part(int depth) {
            if (sign == '[') {
                if (opens(depth)) {
                    sum(depth + 1);
                    close(']');
                }
                return;
            }
            int word = placeIn(inOrders ? ORDER_WORDS : LAW_WORDS);
            boolean isNumber = sign == DIGITS && number <= MOST_NUMBER;
            if (parts >= MOST_PARTS || word == NONE && !isNumber) {
                wrong();
                return;
            }
            parts++;
            if (isNumber) {
                text.emit(Machine.NUMBER, number);
                advance();
            } else {
                advance();
                word(word);
            }
        }

        private void word(int word) {
            if (!inOrders || word < Run.HAS_WORD) {
                text.asksFit |= inOrders && word == Run.FIT_WORD;
                text.emit(Machine.WORD, word);
                return;
            }
            if (sign != DIGITS || number >= MOST_PEOPLE) {
                wrong();
                return;
            }
            int first = word == Run.HAS_WORD ? Run.HAS_AT : Run.PATIENCE_AT;
            text.emit(Machine.WORD, first + number);
            advance();
        }

        private boolean opens(int depth) {
            if (depth >= MOST_BRACKETS) {
                wrong();
                return false;
            }
            advance();
            return true;
        }

        private void close(int bracket) {
            if (fault != NONE) {
                return;
            }
            if (sign == bracket) {
                advance();
            } else {
                wrong();
            }
        }

        private void advance() {
            while (at < length && tape[at] == ' ') {
                at++;
            }
            start = at;
            if (at >= length) {
                sign = THE_END;
                return;
            }
            int first = tape[at];
            at++;
            if (first >= 'a' && first <= 'z') {
                sign = LETTERS;
                while (at < length && tape[at] >= 'a' && tape[at] <= 'z') {
                    at++;
                }
            } else if (first >= '0' && first <= '9') {
                sign = DIGITS;
                number = first - '0';
                while (at < length && tape[at] >= '0' && tape[at] <= '9') {
                    number = Math.min(number * 10 + tape[at] - '0', MOST_NUMBER + 1);
                    at++;
                }
            } else {
                sign = first & 255;
            }
        }

        private boolean goesOnWith(String word) {
            boolean here = fault == NONE && placeIn(word) == 0;
            if (here) {
                advance();
            }
            return here;
        }

        /** Which of the words that blanks part the token is; NONE, if it is none of them. */
        private int placeIn(String words) {
            if (sign != LETTERS) {
                return NONE;
            }
            int place = 0;
            int alike = 0;
            for (int i = 0; i <= words.length(); i++) {
                char letter = i < words.length() ? words.charAt(i) : ' ';
                if (letter == ' ') {
                    if (start + alike == at) {
                        return place;
                    }
                    place++;
                    alike = 0;
                } else if (alike >= 0 && start + alike < at && tape[start + alike] == letter) {
                    alike++;
                } else {
                    // No later letter may make this word the token any more.
                    alike = -MOST_BYTES;
                }
            }
            return NONE;
        }
    }

    /** Runs the code of a sum or a test; all jumps go forward, so it comes to an end. */
    private static final class Machine {
        static final int OP_BITS = 4;
        static final int STOP = 0;
        static final int NUMBER = 1;
        static final int WORD = 2;
        static final int AND = 3;
        static final int OR = 4;
        static final int NOT = 5;
        static final int LESS = 6;
        static final int MORE = 7;
        static final int SAME = 8;
        static final int PLUS = 9;
        static final int MINUS = 10;
        static final int TIMES = 11;
        static final int BY = 12;
        static final int REST = 13;
        static final long FARTHEST = 1000000000L;

        // Within each of the brackets a comparison, a sum and a term may wait for what is right of them.
        final int[] stack = new int[64];

        /** The sum, or 1 and 0 for a test that is so or is not; BROKEN. */
        int run(Text text, int from, int[] words) {
            if (from < 0) {
                return BROKEN;
            }
            int top = 0;
            int skipTo = from;
            for (int i = from; i < text.size; i++) {
                if (i < skipTo) {
                    continue;
                }
                int op = text.code[i] & (1 << OP_BITS) - 1;
                int value = text.code[i] >> OP_BITS;
                if (op == STOP) {
                    break;
                }
                if (op <= WORD) {
                    if (top >= stack.length || op == WORD && value >= words.length) {
                        return BROKEN;
                    }
                    stack[top] = op == NUMBER ? value : words[value];
                    top++;
                } else if (top < (op <= NOT ? 1 : 2)) {
                    return BROKEN;
                } else if (op == NOT) {
                    stack[top - 1] = 1 - stack[top - 1];
                } else if (op <= OR) {
                    if (stack[top - 1] == op - AND) {
                        skipTo = value;
                    } else {
                        top--;
                    }
                } else {
                    top--;
                    long left = stack[top - 1];
                    long right = stack[top];
                    long result;
                    switch (op) {
                        case LESS: result = left < right ? 1 : 0; break;
                        case MORE: result = left > right ? 1 : 0; break;
                        case SAME: result = left == right ? 1 : 0; break;
                        case PLUS: result = left + right; break;
                        case MINUS: result = left - right; break;
                        case TIMES: result = left * right; break;
                        case BY: result = right == 0 ? BROKEN : left / right; break;
                        default: result = right == 0 ? BROKEN : left % right; break;
                    }
                    if (result > FARTHEST || result < -FARTHEST) {
                        return BROKEN;
                    }
                    stack[top - 1] = (int) result;
                }
            }
            return top == 1 ? stack[0] : BROKEN;
        }
    }

    /** Asks a law of the people, tickets and desks of a hall, each thing once as long as neither changes. */
    private static final class Judge {
        static final int PAIRS = MOST_PEOPLE * MOST_TICKETS;
        static final int FITS_AT = PAIRS * MOST_DESKS;
        static final int BARS_AT = FITS_AT + PAIRS;
        static final int COSTS_AT = BARS_AT + PAIRS;
        static final int UNKNOWN = -1;

        final Machine machine = new Machine();
        final int[] words = new int[9];
        final int[] known = new int[COSTS_AT + MOST_PEOPLE];
        Hall hall;
        Text law;

        Judge(Hall first) {
            hall = first;
        }

        void begin(Hall asked, Text itsLaw) {
            hall = asked;
            law = itsLaw;
            Arrays.fill(known, UNKNOWN);
        }

        int minutes(int person, int ticket, int desk) {
            int cell = (person * MOST_TICKETS + ticket) * MOST_DESKS + desk;
            if (known[cell] == UNKNOWN) {
                int speed = Math.max(hall.speed[desk], 1);
                speakOf(person, ticket, speed);
                int told = lastTold(TAKES);
                known[cell] = told == BROKEN ? 1 + 20 / speed : Math.max(1, Math.min(told, 60));
            }
            return known[cell];
        }

        int cost(int person) {
            int cell = COSTS_AT + person;
            if (known[cell] == UNKNOWN) {
                speakOf(person, NONE, NONE);
                int told = lastTold(COSTS);
                known[cell] = told == BROKEN ? 1 : Math.max(0, Math.min(told, 9));
            }
            return known[cell];
        }

        boolean isFit(int person, int ticket) {
            int cell = FITS_AT + person * MOST_TICKETS + ticket;
            if (known[cell] == UNKNOWN) {
                speakOf(person, ticket, NONE);
                known[cell] = hall.kind[ticket] == hall.business[person] || anyHolds(FITS) ? 1 : 0;
            }
            return known[cell] == 1;
        }

        boolean isBarred(int person, int ticket) {
            int cell = BARS_AT + person * MOST_TICKETS + ticket;
            if (known[cell] == UNKNOWN) {
                speakOf(person, ticket, NONE);
                known[cell] = anyHolds(BARS) ? 1 : 0;
            }
            return known[cell] == 1;
        }

        private void speakOf(int person, int ticket, int speed) {
            words[0] = person;
            words[1] = hall.business[person];
            words[2] = hall.patience[person];
            words[3] = ticket;
            words[4] = ticket < 0 ? NONE : hall.number[ticket];
            words[5] = ticket < 0 ? NONE : hall.kind[ticket];
            words[6] = speed;
            words[7] = hall.terms[MINUTE];
            words[8] = hall.terms[MOOD];
        }

        /** What the last clause of the verb that holds tells; BROKEN without one. */
        private int lastTold(int verb) {
            if (law == null) {
                return BROKEN;
            }
            for (int c = law.clauses - 1; c >= 0; c--) {
                if (law.head(c, Text.VERB) != verb) {
                    continue;
                }
                int test = law.head(c, Text.TEST);
                if (test == NONE || machine.run(law, test, words) == 1) {
                    int told = machine.run(law, law.head(c, Text.FIRST), words);
                    if (told != BROKEN) {
                        return told;
                    }
                }
            }
            return BROKEN;
        }

        private boolean anyHolds(int verb) {
            if (law == null) {
                return false;
            }
            for (int c = 0; c < law.clauses; c++) {
                if (law.head(c, Text.VERB) == verb) {
                    int test = law.head(c, Text.TEST);
                    if (test == NONE || machine.run(law, test, words) == 1) {
                        return true;
                    }
                }
            }
            return false;
        }
    }

    /** Draws, swaps, drops and minutes in a hall, as calls, orders and lots do them alike. */
    private static final class Acts {
        final Judge judge;
        long seed;

        Acts(Judge itsJudge) {
            judge = itsJudge;
        }

        int takeUp(Hall hall, int ticket, int person) {
            if (!hall.isTicket(ticket) || !hall.isPerson(person)) {
                return NO_SUCH;
            }
            if (hall.holds[person] != NONE || hall.holder[ticket] != NONE || judge.isBarred(person, ticket)) {
                return CANNOT;
            }
            hall.give(ticket, person);
            hall.log.add(DRAW, ticket, person);
            return hall.number[ticket];
        }

        int exchange(Hall hall, int one, int other) {
            if (!hall.isPerson(one) || !hall.isPerson(other)) {
                return NO_SUCH;
            }
            int mine = hall.holds[one];
            int theirs = hall.holds[other];
            if (one == other || mine == NONE || theirs == NONE) {
                return CANNOT;
            }
            if (judge.isBarred(one, theirs) || judge.isBarred(other, mine)) {
                return CANNOT;
            }
            hall.cross(one, other);
            hall.log.add(SWAP, one, other);
            return theirs;
        }

        int giveUp(Hall hall, int person) {
            if (!hall.isPerson(person)) {
                return NO_SUCH;
            }
            int ticket = hall.holds[person];
            if (ticket == NONE) {
                return CANNOT;
            }
            hall.ungive(ticket, person);
            hall.log.add(DROP, ticket, person);
            return ticket;
        }

        int tick(Hall hall) {
            if (hall.terms[MINUTE] >= LAST_MINUTE) {
                return CANNOT;
            }
            hall.terms[MINUTE]++;
            hall.log.add(PASS, 0, 0);
            // A law may speak of the minute.
            judge.begin(hall, hall.lawInForce());
            return hall.terms[MINUTE];
        }

        int byLot(Hall hall) {
            int person = lot(hall.people);
            int ticket = lot(hall.tickets);
            int what = lot(3);
            if (what == DRAW) {
                return takeUp(hall, ticket, person);
            }
            if (what == SWAP) {
                return hall.isTicket(ticket) ? exchange(hall, person, hall.holder[ticket]) : NO_SUCH;
            }
            return giveUp(hall, person);
        }

        private int lot(int of) {
            seed = (seed * 1103 + 12345) % 1000003;
            return of > 0 ? (int) (seed % of) : 0;
        }
    }

    /** Orders being run. */
    private static final class Run {
        static final int FIT_WORD = 3;
        static final int HAS_WORD = 5;
        static final int HAS_AT = 5;
        static final int PATIENCE_AT = HAS_AT + MOST_PEOPLE;

        final Judge judge;
        final Acts acts;
        final int[] words = new int[PATIENCE_AT + MOST_PEOPLE];
        int done;
        int latest;

        Run(Judge itsJudge, Acts itsActs) {
            judge = itsJudge;
            acts = itsActs;
        }

        /** The clause that could not be; NONE, if all were run. */
        int through(Hall hall, Text text) {
            done = 0;
            latest = NONE;
            for (int c = 0; c < text.clauses; c++) {
                int times = text.head(c, Text.TIMES);
                for (int i = 0; i < times; i++) {
                    if (!once(hall, text, c)) {
                        return c;
                    }
                }
            }
            return NONE;
        }

        private boolean once(Hall hall, Text text, int clause) {
            lookAt(hall, text.asksFit);
            int test = text.head(clause, Text.TEST);
            if (test != NONE && judge.machine.run(text, test, words) != 1) {
                return true;
            }
            int first = text.head(clause, Text.FIRST);
            int second = text.head(clause, Text.SECOND);
            int one = first == NONE ? 0 : judge.machine.run(text, first, words);
            int other = second == NONE ? 0 : judge.machine.run(text, second, words);
            if (one == BROKEN || other == BROKEN || act(hall, text.head(clause, Text.VERB), one, other) < 0) {
                return false;
            }
            done++;
            return true;
        }

        private int act(Hall hall, int verb, int one, int other) {
            switch (verb) {
                case DRAW:
                    int told = acts.takeUp(hall, one, other);
                    if (told >= 0) {
                        latest = told;
                    }
                    return told;
                case SWAP:
                    return acts.exchange(hall, one, other);
                case DROP:
                    return acts.giveUp(hall, one);
                default:
                    return acts.tick(hall);
            }
        }

        private void lookAt(Hall hall, boolean fitIsAsked) {
            words[0] = hall.terms[MINUTE];
            words[1] = done;
            words[2] = latest;
            words[FIT_WORD] = fitIsAsked ? fitOnes(hall) : 0;
            words[4] = hall.free();
            for (int p = 0; p < MOST_PEOPLE; p++) {
                words[HAS_AT + p] = hall.isPerson(p) ? hall.holds[p] : NONE;
                words[PATIENCE_AT + p] = hall.isPerson(p) ? hall.patience[p] : NONE;
            }
        }

        private int fitOnes(Hall hall) {
            int found = 0;
            for (int p = 0; p < hall.people; p++) {
                if (hall.holds[p] != NONE && judge.isFit(p, hall.holds[p])) {
                    found++;
                }
            }
            return found;
        }
    }

    /** A day on paper: who is called where and when. */
    private static final class Day {
        static final int NOT_CALLED = 1000;

        final int[] order = new int[MOST_TICKETS];
        final int[] free = new int[MOST_DESKS];
        final int[] begun = new int[MOST_PEOPLE];
        final int[] done = new int[MOST_PEOPLE];
        final int[] desk = new int[MOST_PEOPLE];

        /** Puts the tickets of a hall in line by rising numbers. */
        void line(Hall hall) {
            for (int t = 0; t < hall.tickets; t++) {
                int place = 0;
                for (int other = 0; other < hall.tickets; other++) {
                    if (hall.number[other] < hall.number[t]) {
                        place++;
                    }
                }
                order[place] = t;
            }
        }

        void play(Judge judge, int[] holder, int open) {
            Hall hall = judge.hall;
            Arrays.fill(free, 0);
            Arrays.fill(begun, NONE);
            Arrays.fill(done, NONE);
            Arrays.fill(desk, NONE);
            for (int i = 0; i < hall.tickets; i++) {
                int ticket = order[i];
                int person = holder[ticket];
                if (person == NONE) {
                    continue;
                }
                int there = earliest(hall, hall.kind[ticket], open);
                if (there != NONE) {
                    desk[person] = there;
                    begun[person] = free[there];
                    free[there] += judge.minutes(person, ticket, there);
                    done[person] = free[there];
                }
            }
        }

        private int earliest(Hall hall, int kind, int open) {
            int found = NONE;
            for (int d = 0; d < hall.desks; d++) {
                boolean opens = (open >> d & 1) == 1 && (hall.opens[d] >> kind & 1) == 1;
                if (opens && (found == NONE || free[d] < free[found])) {
                    found = d;
                }
            }
            return found;
        }

        int waitOf(Judge judge, int person) {
            return begun[person] == NONE ? NOT_CALLED : judge.cost(person) * begun[person];
        }

        int waitOfAll(Judge judge) {
            int all = 0;
            for (int p = 0; p < judge.hall.people; p++) {
                if (judge.hall.holds[p] != NONE) {
                    all += begun[p] == NONE ? NOT_CALLED : judge.cost(p) * begun[p];
                }
            }
            return all;
        }
    }

    /** Goes through ways to hold tickets, and through desks; what it found is good until the hall changes. */
    private static final class Plan {
        static final int MOST_WAYS = 720;
        static final int TICKET_BITS = 3;

        final Judge judge;
        final Day day;
        final int[] way = new int[MOST_PEOPLE];
        final int[] wayHolder = new int[MOST_TICKETS];
        final int[] best = new int[MOST_PEOPLE];
        final int[] rows = new int[MOST_WAYS];
        final int[] tally = new int[MOST_TICKETS];
        boolean aboutKnown;
        boolean waysKnown;
        boolean asTold;
        int mostFit;
        int leastWait;
        int ways;

        Plan(Judge itsJudge, Day itsDay) {
            judge = itsJudge;
            day = itsDay;
        }

        void markStale() {
            aboutKnown = false;
            waysKnown = false;
        }

        void findAbout(Hall hall) {
            if (aboutKnown) {
                return;
            }
            mostFit = NONE;
            leastWait = 0;
            asTold = false;
            startOver(hall);
            place(0);
            aboutKnown = true;
        }

        void findWays(Hall hall) {
            if (waysKnown) {
                return;
            }
            ways = 0;
            asTold = true;
            startOver(hall);
            place(0);
            waysKnown = true;
        }

        private void startOver(Hall hall) {
            judge.begin(hall, hall.lawInForce());
            day.line(hall);
            Arrays.fill(way, NONE);
            Arrays.fill(wayHolder, NONE);
        }

        /** Goes from the lowest person and ticket up, so that ways come as rows of tickets by people. */
        private void place(int person) {
            Hall hall = judge.hall;
            if (person >= hall.people) {
                if (asTold) {
                    keepIfAsTold();
                } else {
                    keepIfBetter();
                }
                return;
            }
            if (hall.holds[person] == NONE) {
                place(person + 1);
                return;
            }
            for (int t = 0; t < hall.tickets; t++) {
                if (hall.holder[t] != NONE && wayHolder[t] == NONE && mayHave(person, t)) {
                    way[person] = t;
                    wayHolder[t] = person;
                    place(person + 1);
                    wayHolder[t] = NONE;
                }
            }
            way[person] = NONE;
        }

        /** What was had in the past may have been held ahead of a law that bars it; what is still to be held may not. */
        private boolean mayHave(int person, int ticket) {
            return asTold || !judge.isBarred(person, ticket);
        }

        private void keepIfBetter() {
            int fit = 0;
            for (int p = 0; p < judge.hall.people; p++) {
                if (way[p] != NONE && judge.isFit(p, way[p])) {
                    fit++;
                }
            }
            if (fit < mostFit) {
                return;
            }
            day.play(judge, wayHolder, ALL_DESKS);
            int wait = day.waitOfAll(judge);
            if (fit > mostFit || wait < leastWait) {
                mostFit = fit;
                leastWait = wait;
                System.arraycopy(way, 0, best, 0, MOST_PEOPLE);
            }
        }

        private void keepIfAsTold() {
            Hall hall = judge.hall;
            if (hall.tolds > 0) {
                day.play(judge, wayHolder, ALL_DESKS);
            }
            for (int i = 0; i < hall.tolds; i++) {
                if (day.done[hall.toldPerson[i]] != hall.toldMinute[i]) {
                    return;
                }
            }
            int row = 0;
            for (int p = 0; p < hall.people; p++) {
                row |= Math.max(way[p], 0) << TICKET_BITS * p;
            }
            if (ways < MOST_WAYS) {
                rows[ways] = row;
                ways++;
            }
        }

        int ticketIn(int i, int person) {
            return rows[i] >> TICKET_BITS * person & MOST_TICKETS - 1;
        }

        /** In how many ways a person holds the ticket that it holds in most of them. */
        int mostWaysAlike(int person) {
            Arrays.fill(tally, 0);
            int most = 0;
            for (int i = 0; i < ways; i++) {
                int ticket = ticketIn(i, person);
                tally[ticket]++;
                most = Math.max(most, tally[ticket]);
            }
            return most;
        }

        int earliestDone(int person) {
            Hall hall = judge.hall;
            System.arraycopy(hall.holder, 0, wayHolder, 0, MOST_TICKETS);
            int found = NONE;
            int earliest = 0;
            for (int t = 0; t < hall.tickets; t++) {
                if (hall.holder[t] != NONE || judge.isBarred(person, t)) {
                    continue;
                }
                wayHolder[t] = person;
                day.play(judge, wayHolder, ALL_DESKS);
                wayHolder[t] = NONE;
                int done = day.done[person];
                if (done != NONE && (found == NONE || done < earliest)) {
                    found = t;
                    earliest = done;
                }
            }
            return found;
        }

        int fewestDesks(int minute) {
            int masks = 1 << judge.hall.desks;
            for (int size = 0; size <= judge.hall.desks; size++) {
                for (int open = 0; open < masks; open++) {
                    if (Integer.bitCount(open) == size && areDone(open, minute)) {
                        return open;
                    }
                }
            }
            return NONE;
        }

        private boolean areDone(int open, int minute) {
            Hall hall = judge.hall;
            day.play(judge, hall.holder, open);
            for (int p = 0; p < hall.people; p++) {
                if (hall.holds[p] != NONE && (day.done[p] == NONE || day.done[p] > minute)) {
                    return false;
                }
            }
            return true;
        }
    }

    /** Trade in rings, and swaps that both would rather have. */
    private static final class Trade {
        final boolean[] left = new boolean[MOST_PEOPLE];
        final boolean[] leaves = new boolean[MOST_PEOPLE];
        final int[] points = new int[MOST_PEOPLE];
        final int[] gets = new int[MOST_PEOPLE];
        int rings;

        void settle(Judge judge) {
            Hall hall = judge.hall;
            rings = 0;
            Arrays.fill(gets, NONE);
            for (int p = 0; p < MOST_PEOPLE; p++) {
                left[p] = hall.isPerson(p) && hall.holds[p] != NONE;
                leaves[p] = false;
            }
            // Each round at least one leaves.
            for (int round = 0; round < hall.people; round++) {
                pointAll(judge);
                takeRings(hall);
            }
        }

        private void pointAll(Judge judge) {
            for (int p = 0; p < judge.hall.people; p++) {
                if (left[p]) {
                    points[p] = wishedHolder(judge, p);
                }
            }
        }

        private int wishedHolder(Judge judge, int person) {
            Hall hall = judge.hall;
            int found = person;
            int most = NONE;
            for (int t = 0; t < hall.tickets; t++) {
                int holder = hall.holder[t];
                if (holder == NONE || !left[holder] || holder != person && judge.isBarred(person, t)) {
                    continue;
                }
                int wish = hall.wishes[person * MOST_TICKETS + t];
                if (wish > most) {
                    most = wish;
                    found = holder;
                }
            }
            return found;
        }

        private void takeRings(Hall hall) {
            for (int p = 0; p < hall.people; p++) {
                leaves[p] = left[p] && isInRing(p);
            }
            for (int p = 0; p < hall.people; p++) {
                if (leaves[p]) {
                    gets[p] = hall.holds[points[p]];
                    left[p] = false;
                }
            }
        }

        /** Counts a ring at its lowest, so that it is counted once. */
        private boolean isInRing(int person) {
            int next = points[person];
            int lowest = Math.min(person, next);
            for (int i = 0; i < MOST_PEOPLE && next != person; i++) {
                next = points[next];
                lowest = Math.min(lowest, next);
            }
            if (next == person && lowest == person) {
                rings++;
            }
            return next == person;
        }

        boolean bothWouldSwap(Judge judge, int one, int other) {
            Hall hall = judge.hall;
            int mine = hall.holds[one];
            int theirs = hall.holds[other];
            if (mine == NONE || theirs == NONE) {
                return false;
            }
            return wantsMore(judge, one, mine, theirs) && wantsMore(judge, other, theirs, mine);
        }

        private static boolean wantsMore(Judge judge, int person, int own, int wanted) {
            int row = person * MOST_TICKETS;
            return judge.hall.wishes[row + wanted] > judge.hall.wishes[row + own] && !judge.isBarred(person, wanted);
        }
    }
}
