/** A crew of actors that have nothing in common but letters; README.md says how to use it. */
public final class LetterCrew {
    public static final int NONE = -1, UNKNOWN = -101, OUTSIDE = -102, STATE = -103, FULL = -104;

    private static final int PAGE_ROOM = 84;
    private static final int ACTOR_ROOM = 6;
    private static final int STEP_ROOM = 3;
    private static final int LINK_ROOM = 6;
    private static final int BOX_ROOM = 5;
    private static final int SEEN_ROOM = 6;

    private static final int ACTOR = 0, TRAP = 1, BOSS = 2, MUTE = 3, HASTY = 4;
    private static final int KINDS = 5;

    private static final int REST = 0, WAIT = 1, SEND = 2, FALL = 3;
    private static final int ANY_SIGN = 9;
    private static final int FALL_SIGN = 8;

    private static final int PATIENCE = 3;
    private static final int RAISES_AT_ONCE = 2;
    private static final int RAISE_TICKS = 4;
    /** So long ago that no TICK counts it as new. */
    private static final int NEVER = -1000;

    private static final int LAST_TIME = 9999;
    private static final int MOST_TIMES = 50;
    private static final int ROUND_TICKS = 60;
    private static final int MOST_ROUNDS = 6;
    private static final int MOST_DRAWN = 30;
    private static final int SIGNS_DRAWN = 8;

    private static final int ACTOR_WHATS = 10;
    private static final int COUNT_WHATS = 11;

    private final Page page = new Page();
    private final Reader reader = new Reader();
    private final Plan plan = new Plan();
    private final Crew now = new Crew(plan);
    private final Crew kept = new Crew(plan);
    /** Where what would be is played, so that what is stays as it is. */
    private final Crew guess = new Crew(plan);
    private final Tracks tracks = new Tracks();
    private final Draws draws = new Draws();
    private boolean isKept;
    private int crewsRead;
    private int roundsTold;

    public LetterCrew() {
    }

    // ---- the crew

    public int letter(int code) {
        if (code < 32 || code > 126) {
            return OUTSIDE;
        }
        if (page.size >= PAGE_ROOM) {
            return FULL;
        }
        page.add(code);
        return page.size;
    }

    public int blank() {
        int had = page.size;
        page.size = 0;
        return had;
    }

    public int fault() {
        return reader.readTillFault(page);
    }

    public int crew() {
        if (reader.readTillFault(page) < page.size || !reader.isWhole()) {
            return STATE;
        }
        plan.copyFrom(reader.plan);
        now.start();
        page.size = 0;
        isKept = false;
        crewsRead++;
        return plan.actors;
    }

    public int actor(int actor, int what) {
        if (!plan.has(actor)) {
            return UNKNOWN;
        }
        if (what < 0 || what >= ACTOR_WHATS) {
            return OUTSIDE;
        }
        return actorFact(actor, what);
    }

    public int box(int actor, int place, int what) {
        if (!plan.has(actor) || place < 0 || place >= now.actors[actor].box.size) {
            return UNKNOWN;
        }
        if (what < 0 || what > 1) {
            return OUTSIDE;
        }
        Box box = now.actors[actor].box;
        return what == 0 ? box.signs[place] : box.senders[place];
    }

    public int as(int actor, int kind) {
        if (!plan.has(actor)) {
            return UNKNOWN;
        }
        if (kind < 0 || kind >= KINDS) {
            return OUTSIDE;
        }
        return isOfKind(now.actors[actor].kind, kind) ? actor : NONE;
    }

    // ---- what is done

    public int send(int actor, int sign) {
        if (!plan.has(actor)) {
            return UNKNOWN;
        }
        if (sign < 0 || sign > 8) {
            return OUTSIDE;
        }
        if (!now.actors[actor].up) {
            return STATE;
        }
        if (now.actors[actor].box.isFull()) {
            return FULL;
        }
        now.post(actor, sign, NONE);
        return now.actors[actor].box.size;
    }

    public int tick(int times) {
        if (times < 1 || times > MOST_TIMES) {
            return OUTSIDE;
        }
        if (plan.isNone()) {
            return STATE;
        }
        if (now.time + times > LAST_TIME) {
            return FULL;
        }
        int gone = 0;
        for (int i = 0; i < times; i++) {
            gone += now.runTick();
        }
        return gone;
    }

    public int fell(int actor) {
        if (!plan.has(actor)) {
            return UNKNOWN;
        }
        if (!now.actors[actor].up) {
            return STATE;
        }
        int before = now.downsInAll();
        now.fall(actor);
        return now.downsInAll() - before;
    }

    public int raise(int actor) {
        if (!plan.has(actor)) {
            return UNKNOWN;
        }
        if (now.actors[actor].up) {
            return STATE;
        }
        now.actors[actor].rise();
        return now.upInAll();
    }

    public int tie(int one, int other) {
        if (!plan.has(one) || !plan.has(other) || one == other) {
            return UNKNOWN;
        }
        if (now.links.find(one, other) != NONE) {
            return STATE;
        }
        if (now.links.isFull()) {
            return FULL;
        }
        now.links.add(one, other);
        return now.links.size;
    }

    public int cut(int one, int other) {
        if (!plan.has(one) || !plan.has(other)) {
            return UNKNOWN;
        }
        int place = now.links.find(one, other);
        if (place == NONE) {
            return STATE;
        }
        now.links.takeOut(place);
        return now.links.size;
    }

    public int be(int actor, int kind) {
        if (!plan.has(actor)) {
            return UNKNOWN;
        }
        if (kind < 0 || kind >= KINDS) {
            return OUTSIDE;
        }
        int was = now.actors[actor].kind;
        now.actors[actor].turnInto(kind);
        return was;
    }

    // ---- what would be

    public int round(int what) {
        if (what < 0 || what > 1) {
            return OUTSIDE;
        }
        if (plan.isNone() || roundsTold >= MOST_ROUNDS) {
            return STATE;
        }
        roundsTold++;
        guess.copyFrom(now);
        tracks.write(0, guess);
        for (int ticks = 1; ticks <= ROUND_TICKS; ticks++) {
            guess.runTick();
            tracks.write(ticks, guess);
            int lead = tracks.firstLike(ticks);
            if (lead != NONE) {
                return what == 0 ? lead : ticks - lead;
            }
        }
        return NONE;
    }

    // ---- what is seen

    public int see(int actor, int what, boolean could) {
        if (!plan.has(actor)) {
            return UNKNOWN;
        }
        if (what < 0 || what >= Seen.WHATS) {
            return OUTSIDE;
        }
        if (now.seen.isFull()) {
            return FULL;
        }
        now.seen.add(actor, what, could);
        return now.seen.size;
    }

    public int forget() {
        int had = now.seen.size;
        now.seen.size = 0;
        return had;
    }

    public int drawn(int times, int seed, int what) {
        if (times < 1 || times > MOST_DRAWN || seed < 0 || what < 0 || what > 2) {
            return OUTSIDE;
        }
        if (plan.isNone()) {
            return STATE;
        }
        guess.copyFrom(now);
        draws.seed = seed;
        for (int i = 0; i < times; i++) {
            int actor = draws.draw(plan.actors);
            int sign = draws.draw(SIGNS_DRAWN);
            guess.post(actor, sign, NONE);
            guess.runTick();
        }
        if (what == 0) {
            return guess.lost - now.lost;
        }
        return what == 1 ? guess.downsInAll() - now.downsInAll() : draws.seed;
    }

    // ---- what is told of all

    public int image() {
        if (plan.isNone()) {
            return STATE;
        }
        kept.copyFrom(now);
        isKept = true;
        return now.time;
    }

    public int restore() {
        if (!isKept) {
            return STATE;
        }
        now.copyFrom(kept);
        return now.time;
    }

    public int count(int what) {
        if (what < 0 || what >= COUNT_WHATS) {
            return OUTSIDE;
        }
        return countFact(what);
    }

    public long digest() {
        long h = 1399;
        for (int i = 0; i < plan.actors; i++) {
            for (int what = 0; what < ACTOR_WHATS; what++) {
                h = h * 31 + actorFact(i, what);
            }
            Box box = now.actors[i].box;
            for (int place = 0; place < box.size; place++) {
                h = (h * 31 + box.signs[place]) * 31 + box.senders[place];
            }
        }
        for (int place = 0; place < page.size; place++) {
            h = h * 31 + page.codes[place];
        }
        for (int what = 0; what < COUNT_WHATS; what++) {
            h = h * 31 + countFact(what);
        }
        return h;
    }

    private int actorFact(int number, int what) {
        Actor actor = now.actors[number];
        switch (what) {
            case 0: return actor.kind;
            case 1: return actor.up ? 1 : 0;
            case 2: return actor.step;
            case 3: return actor.waited;
            case 4: return actor.box.size;
            case 5: return actor.downs;
            case 6: return plan.stepCounts[number];
            case 7: return now.seen.sortsOf(number);
            case 8: return Seen.askFor(now.seen.sortsOf(number));
            default: return now.links.countOf(number);
        }
    }

    private int countFact(int what) {
        switch (what) {
            case 0: return plan.actors;
            case 1: return now.upInAll();
            case 2: return now.links.size;
            case 3: return now.time;
            case 4: return now.lettersInAll();
            case 5: return now.lost;
            case 6: return now.downsInAll();
            case 7: return now.seen.size;
            case 8: return page.size;
            case 9: return crewsRead;
            default: return roundsTold;
        }
    }

    private static boolean isOfKind(int kind, int asked) {
        return asked == ACTOR || asked == kind || (asked == TRAP && kind == BOSS);
    }

    private static final class Page {
        final int[] codes = new int[PAGE_ROOM];
        int size;

        void add(int code) {
            if (size < PAGE_ROOM) {
                codes[size] = code;
                size++;
            }
        }
    }

    /** LINKS in the order in which they were told or tied. */
    private static final class Links {
        final int[] ones = new int[LINK_ROOM];
        final int[] others = new int[LINK_ROOM];
        int size;

        boolean isFull() {
            return size >= LINK_ROOM;
        }

        void add(int one, int other) {
            if (size < LINK_ROOM) {
                ones[size] = one;
                others[size] = other;
                size++;
            }
        }

        int find(int one, int other) {
            for (int i = 0; i < size; i++) {
                if (one != other && partnerOf(i, one) == other) {
                    return i;
                }
            }
            return NONE;
        }

        /** The other one of a LINK, NONE if the actor is not in it. */
        int partnerOf(int place, int actor) {
            if (ones[place] == actor) {
                return others[place];
            }
            return others[place] == actor ? ones[place] : NONE;
        }

        void takeOut(int place) {
            for (int i = place + 1; i < size; i++) {
                ones[i - 1] = ones[i];
                others[i - 1] = others[i];
            }
            size--;
        }

        int countOf(int actor) {
            int found = 0;
            for (int i = 0; i < size; i++) {
                if (partnerOf(i, actor) != NONE) {
                    found++;
                }
            }
            return found;
        }

        void copyFrom(Links from) {
            size = from.size;
            for (int i = 0; i < size; i++) {
                ones[i] = from.ones[i];
                others[i] = from.others[i];
            }
        }
    }

    /** What the text of a CREW says; the STEPS of it stay as long as the CREW does. */
    private static final class Plan {
        final int[] kinds = new int[ACTOR_ROOM];
        final int[] stepCounts = new int[ACTOR_ROOM];
        final int[] deeds = new int[ACTOR_ROOM * STEP_ROOM];
        final int[] targets = new int[ACTOR_ROOM * STEP_ROOM];
        final int[] signs = new int[ACTOR_ROOM * STEP_ROOM];
        final Links links = new Links();
        int actors;

        boolean isNone() {
            return actors == 0;
        }

        boolean has(int actor) {
            return actor >= 0 && actor < actors;
        }

        void clear() {
            actors = 0;
            links.size = 0;
        }

        void addActor(int kind) {
            if (actors < ACTOR_ROOM) {
                kinds[actors] = kind;
                stepCounts[actors] = 0;
                actors++;
            }
        }

        boolean lastTakesStep() {
            return actors > 0 && stepCounts[actors - 1] < STEP_ROOM;
        }

        void addStep(int deed, int target, int sign) {
            if (lastTakesStep()) {
                int last = actors - 1;
                int place = placeOf(last, stepCounts[last]);
                deeds[place] = deed;
                targets[place] = target;
                signs[place] = sign;
                stepCounts[last]++;
            }
        }

        int placeOf(int actor, int step) {
            return actor * STEP_ROOM + step;
        }

        boolean sendsToItsOwn() {
            for (int i = 0; i < actors; i++) {
                for (int step = 0; step < stepCounts[i]; step++) {
                    int place = placeOf(i, step);
                    if (deeds[place] == SEND && targets[place] >= actors) {
                        return false;
                    }
                }
            }
            return true;
        }

        void copyFrom(Plan from) {
            actors = from.actors;
            System.arraycopy(from.kinds, 0, kinds, 0, ACTOR_ROOM);
            System.arraycopy(from.stepCounts, 0, stepCounts, 0, ACTOR_ROOM);
            System.arraycopy(from.deeds, 0, deeds, 0, ACTOR_ROOM * STEP_ROOM);
            System.arraycopy(from.targets, 0, targets, 0, ACTOR_ROOM * STEP_ROOM);
            System.arraycopy(from.signs, 0, signs, 0, ACTOR_ROOM * STEP_ROOM);
            links.copyFrom(from.links);
        }
    }

    /** Reads a PAGE letter by letter into a plan of its own, so that a refused one changes nothing. */
    private static final class Reader {
        static final int KIND_DUE = 0, STEP_DUE = 1, WAIT_SIGN_DUE = 2, TARGET_DUE = 3, SEND_SIGN_DUE = 4,
                AFTER_STEP = 5, AFTER_STEPS = 6, LINK_DUE = 7, OTHER_DUE = 8, AFTER_LINK = 9;

        final Plan plan = new Plan();
        private int due;
        private int target;
        private int one;

        int readTillFault(Page page) {
            plan.clear();
            due = KIND_DUE;
            for (int i = 0; i < page.size; i++) {
                if (!takes(page.codes[i])) {
                    return i;
                }
            }
            return page.size;
        }

        boolean isWhole() {
            return (due == AFTER_STEPS || due == AFTER_LINK) && plan.sendsToItsOwn();
        }

        private boolean takes(int code) {
            switch (due) {
                case KIND_DUE: return takesKind(code);
                case STEP_DUE: return takesStep(code);
                case WAIT_SIGN_DUE: return takesWaitSign(code);
                case TARGET_DUE: return takesTarget(code);
                case SEND_SIGN_DUE: return takesSendSign(code);
                case AFTER_STEP: return takesAfterStep(code);
                case AFTER_LINK: return takesAfterLink(code);
                case OTHER_DUE: return takesOther(code);
                default: return takesOne(code);
            }
        }

        private boolean takesKind(int code) {
            int kind = kindOf(code);
            if (kind == NONE) {
                return false;
            }
            plan.addActor(kind);
            due = STEP_DUE;
            return true;
        }

        private static int kindOf(int code) {
            switch (code) {
                case 'a': return ACTOR;
                case 't': return TRAP;
                case 'b': return BOSS;
                case 'm': return MUTE;
                case 'h': return HASTY;
                default: return NONE;
            }
        }

        private boolean takesStep(int code) {
            switch (code) {
                case '?': due = WAIT_SIGN_DUE; return true;
                case '!': due = TARGET_DUE; return true;
                case '*': return endsStep(WAIT, NONE, ANY_SIGN);
                case '-': return endsStep(REST, NONE, NONE);
                case 'x': return endsStep(FALL, NONE, NONE);
                default: return false;
            }
        }

        private boolean endsStep(int deed, int itsTarget, int sign) {
            plan.addStep(deed, itsTarget, sign);
            due = AFTER_STEP;
            return true;
        }

        private boolean takesWaitSign(int code) {
            return code >= '0' && code <= '8' && endsStep(WAIT, NONE, code - '0');
        }

        private boolean takesTarget(int code) {
            if (code < '0' || code >= '0' + ACTOR_ROOM) {
                return false;
            }
            target = code - '0';
            due = SEND_SIGN_DUE;
            return true;
        }

        private boolean takesSendSign(int code) {
            return code >= '0' && code <= '7' && endsStep(SEND, target, code - '0');
        }

        private boolean takesAfterStep(int code) {
            if (code == ';') {
                due = AFTER_STEPS;
                return true;
            }
            if (code == ',') {
                due = KIND_DUE;
                return plan.actors < ACTOR_ROOM;
            }
            return plan.lastTakesStep() && takesStep(code);
        }

        private boolean takesOne(int code) {
            one = code - '0';
            due = OTHER_DUE;
            return plan.has(one);
        }

        private boolean takesOther(int code) {
            int other = code - '0';
            if (!plan.has(other) || other == one || plan.links.find(one, other) != NONE) {
                return false;
            }
            plan.links.add(one, other);
            due = AFTER_LINK;
            return true;
        }

        private boolean takesAfterLink(int code) {
            due = LINK_DUE;
            return code == ',' && !plan.links.isFull();
        }
    }

    /** LETTERS, the oldest one first. */
    private static final class Box {
        final int[] signs = new int[BOX_ROOM];
        final int[] senders = new int[BOX_ROOM];
        int size;

        boolean isFull() {
            return size >= BOX_ROOM;
        }

        void add(int sign, int sender) {
            if (size < BOX_ROOM) {
                signs[size] = sign;
                senders[size] = sender;
                size++;
            }
        }

        int oldestOf(int sign) {
            for (int i = 0; i < size; i++) {
                if (sign == ANY_SIGN || signs[i] == sign) {
                    return i;
                }
            }
            return NONE;
        }

        int newestOf(int sign) {
            for (int i = size - 1; i >= 0; i--) {
                if (sign == ANY_SIGN || signs[i] == sign) {
                    return i;
                }
            }
            return NONE;
        }

        void takeOut(int place) {
            for (int i = place + 1; i < size; i++) {
                signs[i - 1] = signs[i];
                senders[i - 1] = senders[i];
            }
            size--;
        }

        void copyFrom(Box from) {
            size = from.size;
            for (int i = 0; i < size; i++) {
                signs[i] = from.signs[i];
                senders[i] = from.senders[i];
            }
        }
    }

    private static final class Actor {
        final Box box = new Box();
        int kind;
        boolean up;
        int step;
        int waited;
        int downs;
        /** Two are enough: a BOSS RAISES only if fewer than two are new, so an older one is never asked for. */
        private int lastRaise;
        private int raiseBefore;

        void start(int itsKind) {
            turnInto(itsKind);
            downs = 0;
            rise();
        }

        void turnInto(int otherKind) {
            kind = otherKind;
            lastRaise = NEVER;
            raiseBefore = NEVER;
        }

        void rise() {
            up = true;
            step = 0;
            waited = 0;
            box.size = 0;
        }

        boolean mayRaise(int time) {
            int raises = 0;
            if (time - lastRaise <= RAISE_TICKS) {
                raises++;
            }
            if (time - raiseBefore <= RAISE_TICKS) {
                raises++;
            }
            return raises < RAISES_AT_ONCE;
        }

        void noteRaise(int time) {
            raiseBefore = lastRaise;
            lastRaise = time;
        }

        /** The LETTER that it would take, NONE if there is none for it. */
        int placeToTake(int sign) {
            if (kind == MUTE) {
                return NONE;
            }
            return kind == HASTY ? box.newestOf(sign) : box.oldestOf(sign);
        }

        /** All that ROUND looks at, each in bits of its own, so that two are alike if their numbers are. */
        long track(int time) {
            long bits = up ? 1 : 0;
            bits = bits << 2 | step;
            bits = bits << 2 | waited;
            bits = bits << 3 | ticksAgo(time, lastRaise);
            bits = bits << 3 | ticksAgo(time, raiseBefore);
            bits = bits << 3 | box.size;
            for (int i = 0; i < BOX_ROOM; i++) {
                int bitsOfLetter = i < box.size ? box.signs[i] << 3 | (box.senders[i] + 1) : 0;
                bits = bits << 7 | bitsOfLetter;
            }
            return bits;
        }

        private static int ticksAgo(int time, int raise) {
            return Math.min(time - raise, RAISE_TICKS + 1);
        }

        void copyFrom(Actor from) {
            box.copyFrom(from.box);
            kind = from.kind;
            up = from.up;
            step = from.step;
            waited = from.waited;
            downs = from.downs;
            lastRaise = from.lastRaise;
            raiseBefore = from.raiseBefore;
        }
    }

    /** What is SEEN, each as the KINDS (as bits) that an actor can be of by it. */
    private static final class Seen {
        static final int WHATS = 4;
        private static final int ALL_KINDS = 31;
        /** HASTY; ACTOR, TRAP, BOSS; ACTOR, MUTE, HASTY; BOSS. */
        private static final int[] KINDS_THAT_DO = {16, 7, 25, 4};

        private final int[] actors = new int[SEEN_ROOM];
        private final int[] sorts = new int[SEEN_ROOM];
        int size;

        boolean isFull() {
            return size >= SEEN_ROOM;
        }

        void add(int actor, int what, boolean could) {
            if (size < SEEN_ROOM && what >= 0 && what < WHATS) {
                actors[size] = actor;
                sorts[size] = could ? KINDS_THAT_DO[what] : ALL_KINDS ^ KINDS_THAT_DO[what];
                size++;
            }
        }

        int sortsOf(int actor) {
            int left = ALL_KINDS;
            for (int i = 0; i < size; i++) {
                if (actors[i] == actor) {
                    left &= sorts[i];
                }
            }
            return left;
        }

        static int askFor(int sorts) {
            if (sorts == 0) {
                return NONE;
            }
            int best = 0;
            int leastLeft = KINDS + 1;
            for (int what = 0; what < WHATS; what++) {
                int doing = Integer.bitCount(sorts & KINDS_THAT_DO[what]);
                int left = Math.max(doing, Integer.bitCount(sorts) - doing);
                if (left < leastLeft) {
                    best = what;
                    leastLeft = left;
                }
            }
            return best;
        }

        void copyFrom(Seen from) {
            size = from.size;
            for (int i = 0; i < size; i++) {
                actors[i] = from.actors[i];
                sorts[i] = from.sorts[i];
            }
        }
    }

    /** All that an IMAGE keeps. */
    private static final class Crew {
        /** At most 18 are DOWN in one FALL (six UP, two RAISED by each of six), each brings five at most. */
        private static final int ROW_ROOM = 128;

        final Plan plan;
        final Actor[] actors = new Actor[ACTOR_ROOM];
        final Links links = new Links();
        final Seen seen = new Seen();
        private final int[] row = new int[ROW_ROOM];
        private int rowEnd;
        int time;
        int lost;

        Crew(Plan itsPlan) {
            plan = itsPlan;
            for (int i = 0; i < ACTOR_ROOM; i++) {
                actors[i] = new Actor();
            }
        }

        void start() {
            for (int i = 0; i < plan.actors; i++) {
                actors[i].start(plan.kinds[i]);
            }
            links.copyFrom(plan.links);
            seen.size = 0;
            time = 0;
            lost = 0;
        }

        void copyFrom(Crew from) {
            for (int i = 0; i < plan.actors; i++) {
                actors[i].copyFrom(from.actors[i]);
            }
            links.copyFrom(from.links);
            seen.copyFrom(from.seen);
            time = from.time;
            lost = from.lost;
        }

        /** How many STEPS were gone ON from. */
        int runTick() {
            time++;
            int gone = 0;
            for (int i = 0; i < plan.actors; i++) {
                if (actors[i].up && doStep(i)) {
                    gone++;
                }
            }
            return gone;
        }

        /** Whether the actor went ON. */
        private boolean doStep(int number) {
            int place = plan.placeOf(number, actors[number].step);
            switch (plan.deeds[place]) {
                case WAIT:
                    return waitFor(number, plan.signs[place]);
                case SEND:
                    post(plan.targets[place], plan.signs[place], number);
                    goOn(number);
                    return true;
                case FALL:
                    goOn(number);
                    fall(number);
                    return true;
                default:
                    goOn(number);
                    return true;
            }
        }

        private boolean waitFor(int number, int sign) {
            Actor actor = actors[number];
            int place = actor.placeToTake(sign);
            if (place != NONE) {
                actor.box.takeOut(place);
            } else if (actor.waited + 1 < PATIENCE) {
                actor.waited++;
                return false;
            }
            actor.waited = 0;
            goOn(number);
            return true;
        }

        private void goOn(int number) {
            Actor actor = actors[number];
            actor.step = actor.step + 1 < plan.stepCounts[number] ? actor.step + 1 : 0;
        }

        void post(int target, int sign, int sender) {
            Actor actor = actors[target];
            if (actor.up && !actor.box.isFull()) {
                actor.box.add(sign, sender);
            } else {
                lost++;
            }
        }

        void fall(int number) {
            rowEnd = 0;
            joinRow(number);
            for (int i = 0; i < rowEnd && i < ROW_ROOM; i++) {
                if (actors[row[i]].up) {
                    goDown(row[i]);
                }
            }
        }

        private void joinRow(int number) {
            if (rowEnd < ROW_ROOM) {
                row[rowEnd] = number;
                rowEnd++;
            }
        }

        private void goDown(int number) {
            Actor fallen = actors[number];
            fallen.up = false;
            fallen.downs++;
            lost += fallen.box.size;
            fallen.box.size = 0;
            for (int i = 0; i < links.size; i++) {
                int other = links.partnerOf(i, number);
                if (other != NONE && actors[other].up) {
                    meetFallen(other, number);
                }
            }
        }

        private void meetFallen(int number, int fallen) {
            Actor linked = actors[number];
            if (linked.kind == BOSS && linked.mayRaise(time)) {
                linked.noteRaise(time);
                actors[fallen].rise();
            } else if (linked.kind == TRAP) {
                post(number, FALL_SIGN, fallen);
            } else {
                joinRow(number);
            }
        }

        int upInAll() {
            int found = 0;
            for (int i = 0; i < plan.actors; i++) {
                if (actors[i].up) {
                    found++;
                }
            }
            return found;
        }

        int lettersInAll() {
            int found = 0;
            for (int i = 0; i < plan.actors; i++) {
                found += actors[i].box.size;
            }
            return found;
        }

        int downsInAll() {
            int found = 0;
            for (int i = 0; i < plan.actors; i++) {
                found += actors[i].downs;
            }
            return found;
        }
    }

    /** How all was after each of the TICKS of a ROUND. */
    private static final class Tracks {
        private final long[] tracks = new long[(ROUND_TICKS + 1) * ACTOR_ROOM];
        private int actors;

        void write(int ticks, Crew crew) {
            actors = crew.plan.actors;
            for (int i = 0; i < actors; i++) {
                tracks[ticks * ACTOR_ROOM + i] = crew.actors[i].track(crew.time);
            }
        }

        int firstLike(int ticks) {
            for (int before = 0; before < ticks; before++) {
                if (areAlike(before, ticks)) {
                    return before;
                }
            }
            return NONE;
        }

        private boolean areAlike(int before, int after) {
            for (int i = 0; i < actors; i++) {
                if (tracks[before * ACTOR_ROOM + i] != tracks[after * ACTOR_ROOM + i]) {
                    return false;
                }
            }
            return true;
        }
    }

    private static final class Draws {
        int seed;

        int draw(int many) {
            seed = (int) ((1103515245L * seed + 12345L) % 2147483648L);
            return many > 0 ? seed / 65536 % many : 0;
        }
    }
}
