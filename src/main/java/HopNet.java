/** Hopping radios in two small nets. The numbered promises stand in the project's document. */
public final class HopNet {
    public static final int NONE = -1;

    private static final int CANNOT_BE = -1;
    private static final int NO_SUCH = -2;
    private static final int NOT_NOW = -4;
    private static final int NO_ROOM = -5;
    private static final int CASTING = -2;

    private static final int CHANNELS = 23;
    private static final int ALL_CHANNELS = (1 << CHANNELS) - 1;
    private static final int LEAST_MAP = 8;
    private static final int RADIOS = 6;
    private static final int NETS = 2;
    private static final int LINKS = 4;
    private static final int ROW = 8;
    private static final int CASTS = 4;
    private static final int MOST_WEIGHT = 4;
    private static final int SHARE_ROW = 32;
    private static final int FULL_NOISE = 16;
    private static final int KEPT = 8;
    private static final int IMAGES = 2;

    private static final int LAST_ADDRESS = 268435455;
    private static final int LAST_OFFSET = 65535;
    private static final int LAST_NUMBER = 255;
    private static final int LAST_SEED = 1000000;
    private static final int LAST_TIME = 99998;
    private static final int LAST_SLOT = 199999;
    private static final int LAST_CLOCK = 999999;
    private static final int MOST_TURNS = 200;
    private static final int MOST_SLOTS = 512;
    private static final int OFFSETS_TRIED = 64;
    private static final int DRAIN_TURNS = 400;

    private static final int RADIO_ACT = 0;
    private static final int NET_ACT = 1;
    private static final int JOIN_ACT = 2;
    private static final int LEAVE_ACT = 3;
    private static final int NOISE_ACT = 4;
    private static final int TERMS_ACT = 5;
    private static final int PUT_ACT = 6;
    private static final int RESERVE_ACT = 7;
    private static final int MAP_ACT = 8;
    private static final int RUN_ACT = 9;
    private static final int SNIFF_ACT = 10;
    private static final int CAST_ACT = 11;
    private static final int WEIGH_ACT = 12;

    private static final int BY_NOISE = 1;
    private static final int BY_CLASH = 2;
    private static final int BY_STEP = 3;

    // The tallies are told by count(): those of losses follow LOST, by NOISE, CLASH, STEP.
    private static final int PACKETS = 0;
    private static final int ANSWERS = 1;
    private static final int LOST = 1;
    private static final int PASSED = 5;
    private static final int DROPPED = 6;
    private static final int CASTS_SENT = 7;
    private static final int NEW_MAPS = 8;
    private static final int TALLIES = 9;

    private static final int[] EXCHANGE_ONE = {0, 1, 0, 2, 1, 0, 3, 1, 0};
    private static final int[] EXCHANGE_OTHER = {3, 2, 1, 4, 4, 2, 4, 3, 4};

    private final World world = new World();
    // Calls that try things on paper all use this one world again, so that no call makes objects.
    private final World paper = new World();
    private final World[] images = new World[IMAGES];
    private final boolean[] imageKept = new boolean[IMAGES];
    private final World[] past = new World[KEPT];
    private final int[] pastActs = new int[KEPT];
    private int pastNext = 0;
    private int pastCount = 0;
    private final int[] refusals = new int[5];
    private int latestRefusal = 0;
    private final int[] hopsOfFirst = new int[MOST_SLOTS];
    private final int[] hopsOfSecond = new int[MOST_SLOTS + OFFSETS_TRIED];

    public HopNet() {
        for (int i = 0; i < IMAGES; i++) {
            images[i] = new World();
        }
        for (int i = 0; i < KEPT; i++) {
            past[i] = new World();
        }
    }

    // ---- acts ----

    public int radio(int address) {
        if (!isWithin(address, 0, LAST_ADDRESS)) {
            return refuse(CANNOT_BE);
        }
        if (world.radioCount >= RADIOS) {
            return refuse(NO_ROOM);
        }
        keepForUndo(RADIO_ACT);
        world.addresses[world.radioCount] = address;
        world.radioCount++;
        return accept(world.radioCount - 1);
    }

    public int net(int net, int master, int offset) {
        if (!isWithin(net, 0, NETS - 1) || !isWithin(offset, 0, LAST_OFFSET)) {
            return refuse(CANNOT_BE);
        }
        if (!world.hasRadio(master)) {
            return refuse(NO_SUCH);
        }
        if (world.nets[net].master != NONE || world.nets[1 - net].master == master) {
            return refuse(NOT_NOW);
        }
        keepForUndo(NET_ACT);
        world.nets[net].master = master;
        world.nets[net].offset = offset;
        return accept(world.nets[net].linkCount);
    }

    public int join(int net, int radio) {
        Net to = world.netAt(net);
        if (to == null || !world.hasRadio(radio)) {
            return refuse(NO_SUCH);
        }
        if (to.holds(radio)) {
            return refuse(NOT_NOW);
        }
        if (to.linkCount >= LINKS) {
            return refuse(NO_ROOM);
        }
        keepForUndo(JOIN_ACT);
        to.addMember(radio, world.time);
        return accept(to.linkCount - 1);
    }

    public int leave(int net, int link) {
        Net from = world.netAt(net);
        if (from == null || from.linkAt(link) == null) {
            return refuse(NO_SUCH);
        }
        keepForUndo(LEAVE_ACT);
        from.removeMember(link);
        return accept(from.linkCount);
    }

    public int noise(int channel, int v) {
        if (!isWithin(channel, 0, CHANNELS - 1) || !isWithin(v, 0, FULL_NOISE)) {
            return refuse(CANNOT_BE);
        }
        keepForUndo(NOISE_ACT);
        int was = world.noises[channel];
        world.noises[channel] = v;
        return accept(was);
    }

    public int terms(int what, int v) {
        if (!isTerm(what, v)) {
            return refuse(CANNOT_BE);
        }
        keepForUndo(TERMS_ACT);
        int was;
        if (what == 0) {
            was = world.seed;
            world.seed = v;
        } else if (what == 1) {
            was = world.share;
            world.share = v;
        } else {
            was = world.repeats;
            world.repeats = v;
        }
        return accept(was);
    }

    public int put(int net, int link, int which, int number) {
        if (!isWithin(which, 0, 1) || !isWithin(number, 0, LAST_NUMBER)) {
            return refuse(CANNOT_BE);
        }
        Link to = world.linkAt(net, link);
        if (to == null) {
            return refuse(NO_SUCH);
        }
        Row row = which == 0 ? to.down : to.up;
        if (row.isFull()) {
            return refuse(NO_ROOM);
        }
        keepForUndo(PUT_ACT);
        row.append(number, world.time);
        return accept(row.size);
    }

    public int reserve(int net, int link, int period, int phase, int window) {
        boolean canBe = period == 0 || isEvenWithin(period, 6, 40)
                && isEvenWithin(phase, 0, period - 1) && isWithin(window, 1, 3);
        if (!canBe) {
            return refuse(CANNOT_BE);
        }
        Link to = world.linkAt(net, link);
        if (to == null) {
            return refuse(NO_SUCH);
        }
        keepForUndo(RESERVE_ACT);
        int was = to.frames.period == 0 ? 0 : 1;
        if (period == 0) {
            to.frames.set(0, 0, 0);
        } else {
            to.frames.set(period, phase, window);
        }
        return accept(was);
    }

    public int sniff(int net, int link, int period, int tries) {
        boolean canBe = period == 0 || isEvenWithin(period, 8, 64) && isWithin(tries, 1, 4);
        if (!canBe) {
            return refuse(CANNOT_BE);
        }
        Link to = world.linkAt(net, link);
        if (to == null) {
            return refuse(NO_SUCH);
        }
        keepForUndo(SNIFF_ACT);
        int was = to.sniffPeriod;
        to.sniffPeriod = period;
        to.sniffTries = period == 0 ? 0 : tries;
        return accept(was);
    }

    public int weigh(int net, int link, int weight) {
        if (!isWithin(weight, 1, MOST_WEIGHT)) {
            return refuse(CANNOT_BE);
        }
        Link to = world.linkAt(net, link);
        if (to == null) {
            return refuse(NO_SUCH);
        }
        keepForUndo(WEIGH_ACT);
        int was = to.weight;
        to.weight = weight;
        return accept(was);
    }

    public int cast(int net, int number) {
        if (!isWithin(number, 0, LAST_NUMBER)) {
            return refuse(CANNOT_BE);
        }
        Net by = world.netAt(net);
        if (by == null) {
            return refuse(NO_SUCH);
        }
        if (by.castCount >= CASTS) {
            return refuse(NO_ROOM);
        }
        keepForUndo(CAST_ACT);
        by.casts[by.castCount] = number;
        by.castCount++;
        return accept(by.castCount);
    }

    public int map(int net, int map, int turns) {
        if (!isMap(map) || !isWithin(turns, 1, 100)) {
            return refuse(CANNOT_BE);
        }
        Net of = world.netAt(net);
        if (of == null) {
            return refuse(NO_SUCH);
        }
        if (of.plan.hasNext()) {
            return refuse(NOT_NOW);
        }
        return tellMap(of, map, turns);
    }

    public int adapt(int net, int n, int turns) {
        if (!isWithin(n, 1, 99) || !isWithin(turns, 1, 100)) {
            return refuse(CANNOT_BE);
        }
        Net of = world.netAt(net);
        if (of == null) {
            return refuse(NO_SUCH);
        }
        int bad = of.badChannels(n);
        if (of.plan.hasNext() || bad == 0) {
            return refuse(NOT_NOW);
        }
        int left = of.plan.map & ~bad;
        return tellMap(of, isMap(left) ? left : of.mostAnswered(), turns);
    }

    public int run(int n) {
        if (!isWithin(n, 1, MOST_TURNS)) {
            return refuse(CANNOT_BE);
        }
        if (!hasTimeFor(n)) {
            return refuse(NOT_NOW);
        }
        keepForUndo(RUN_ACT);
        return accept(world.heardInTurns(n));
    }

    public int undo() {
        if (pastCount == 0) {
            return refuse(NOT_NOW);
        }
        pastNext = (pastNext + KEPT - 1) % KEPT;
        pastCount--;
        world.copyFrom(past[pastNext]);
        return accept(pastActs[pastNext]);
    }

    public int image(int k) {
        if (!isWithin(k, 0, IMAGES - 1)) {
            return refuse(CANNOT_BE);
        }
        images[k].copyFrom(world);
        imageKept[k] = true;
        return accept(world.time);
    }

    public int back(int k) {
        if (!isWithin(k, 0, IMAGES - 1)) {
            return refuse(CANNOT_BE);
        }
        if (!imageKept[k]) {
            return refuse(NOT_NOW);
        }
        world.copyFrom(images[k]);
        pastCount = 0;
        return accept(world.time);
    }

    // ---- questions: channels and maps ----

    public int kernel(int address, int clock) {
        if (!isWithin(address, 0, LAST_ADDRESS) || !isWithin(clock, 0, LAST_CLOCK)) {
            return NONE;
        }
        return hopOf(address, clock);
    }

    public int hop(int net, int link, int slot) {
        Plan plan = planOf(net, link);
        if (plan == null || !isWithin(slot, 0, LAST_SLOT)) {
            return NONE;
        }
        return world.channelBy(net, plan.map, slot);
    }

    public int alike(int net, int link, int what) {
        Link of = world.linkAt(net, link);
        if (of == null) {
            return NONE;
        }
        Plan own = world.nets[net].plan;
        switch (what) {
            case 0: return bit(of.plan.isLike(own));
            case 1: return bit(of.plan.map == own.map);
            case 2: return bit(of.known);
            default: return NONE;
        }
    }

    public int mapOf(int net, int link, int what) {
        Plan plan = planOf(net, link);
        if (plan == null) {
            return NONE;
        }
        switch (what) {
            case 0: return plan.map;
            case 1: return plan.next;
            case 2: return plan.instant;
            case 3: return link == NONE ? world.nets[net].mapAhead : NONE;
            default: return NONE;
        }
    }

    public int meets() {
        if (!world.hasBothNets()) {
            return NONE;
        }
        for (int i = 0; i < 4000; i++) {
            if (world.mastersMeet(world.time + i)) {
                return world.time + i;
            }
        }
        return NONE;
    }

    public int used(int net, int channel, int n) {
        Net of = world.netAt(net);
        if (of == null || !isWithin(channel, 0, CHANNELS - 1) || !isWithin(n, 1, MOST_SLOTS)) {
            return NONE;
        }
        int times = 0;
        for (int i = 0; i < n; i++) {
            if (world.channelBy(net, of.plan.map, world.time + i) == channel) {
                times++;
            }
        }
        return times;
    }

    public int bad(int net, int n) {
        Net of = world.netAt(net);
        return of == null || !isWithin(n, 1, 99) ? NONE : of.badChannels(n);
    }

    public int sent(int net, int channel, int what) {
        Net of = world.netAt(net);
        if (of == null || !isWithin(channel, 0, CHANNELS - 1)) {
            return NONE;
        }
        switch (what) {
            case 0: return of.sentOn[channel];
            case 1: return of.answeredOn[channel];
            default: return NONE;
        }
    }

    // ---- questions: links ----

    public int link(int net, int link, int what) {
        Link of = world.linkAt(net, link);
        if (of == null) {
            return NONE;
        }
        switch (what) {
            case 0: return of.radio;
            case 1: return of.down.size;
            case 2: return of.up.size;
            case 3: return of.down.heard;
            case 4: return of.up.heard;
            case 5: return of.why;
            case 6: return of.down.sendBit;
            case 7: return of.down.heardBit;
            case 8: return of.up.sendBit;
            case 9: return of.up.heardBit;
            case 10: return of.timesChosen;
            case 11: return of.turnsReady;
            case 12: return of.castsHeard;
            case 13: return of.castBit;
            case 14: return of.down.greatestLag;
            case 15: return of.up.greatestLag;
            case 16: return of.weight;
            default: return NONE;
        }
    }

    public int hash(int net, int link, int which) {
        Link of = world.linkAt(net, link);
        if (of == null) {
            return 0;
        }
        switch (which) {
            case 0: return of.down.hash;
            case 1: return of.up.hash;
            case 2: return of.castHash;
            default: return 0;
        }
    }

    public int reserved(int net, int link, int what) {
        Link of = world.linkAt(net, link);
        if (of == null || of.frames.period == 0) {
            return NONE;
        }
        switch (what) {
            case 0: return of.frames.period;
            case 1: return of.frames.phase;
            case 2: return of.frames.window;
            case 3: return of.frames.got;
            case 4: return of.frames.missed;
            case 5: return of.frames.turnsLeft;
            default: return NONE;
        }
    }

    public int isThere(int radio, int net, int slot) {
        // A NET without a MASTER is a NET all the same: no RADIO is in it.
        boolean canBe = isWithin(net, 0, NETS - 1) && isWithin(slot, 0, LAST_SLOT);
        if (!canBe || !world.hasRadio(radio)) {
            return NONE;
        }
        return bit(world.isPresent(radio, net, slot));
    }

    // ---- questions: what is likely, what would be ----

    public int odds(int net, int link, int n, int what) {
        Link of = world.linkAt(net, link);
        if (of == null || !isWithin(n, 1, 64) || !isWithin(what, 0, 1)) {
            return NONE;
        }
        int upper = 0;
        for (int i = 0; i < n; i++) {
            int slot = world.time + 2 * i;
            upper += world.clearOf(net, of, slot) * world.clearOf(net, of, slot + 1);
        }
        int lower = FULL_NOISE * FULL_NOISE * n;
        int shared = greatestDivisor(lower, upper);
        return shared == 0 ? NONE : (what == 0 ? upper : lower) / shared;
    }

    public int clashes(int n) {
        if (!world.hasBothNets() || !isWithin(n, 1, MOST_SLOTS)) {
            return NONE;
        }
        int times = 0;
        for (int i = 0; i < n; i++) {
            if (world.mastersMeet(world.time + i)) {
                times++;
            }
        }
        return times;
    }

    public int bestOffset(int n) {
        if (!world.hasBothNets() || !isWithin(n, 1, MOST_SLOTS)) {
            return NONE;
        }
        noteHops(n);
        int best = 0;
        int fewest = clashesAt(0, n);
        for (int offset = 1; offset < OFFSETS_TRIED; offset++) {
            int times = clashesAt(offset, n);
            if (times < fewest) {
                fewest = times;
                best = offset;
            }
        }
        return best;
    }

    public int drain(int net, int link) {
        if (world.linkAt(net, link) == null) {
            return NONE;
        }
        paper.copyFrom(world);
        Link of = paper.linkAt(net, link);
        for (int turns = 0; turns <= DRAIN_TURNS && of != null; turns++) {
            if (of.down.size == 0 && of.up.size == 0) {
                return turns;
            }
            if (turns == DRAIN_TURNS || paper.time + 2 > LAST_TIME) {
                return NONE;
            }
            paper.goOneTurn();
        }
        return NONE;
    }

    public int would(int share, int n, int what) {
        boolean canBe = isTerm(1, share) && isWithin(n, 1, MOST_TURNS) && isWithin(what, 0, 2);
        if (!canBe || !hasTimeFor(n)) {
            return NONE;
        }
        int heard = paperWith(share).heardInTurns(n);
        switch (what) {
            case 0: return heard;
            case 1: return paper.framesMissed() - world.framesMissed();
            default: return paper.linksOfOtherMap();
        }
    }

    public int ready(int net, int link) {
        Link of = world.linkAt(net, link);
        if (of == null) {
            return NONE;
        }
        for (int i = 0; i < 200; i += 2) {
            if (world.isReadyAt(net, of, world.time + i)) {
                return world.time + i;
            }
        }
        return NONE;
    }

    public int bothReady(int net, int link, int other, int n) {
        Link one = world.linkAt(net, link);
        Link two = world.linkAt(net, other);
        if (one == null || two == null || !isWithin(n, 1, MOST_TURNS)) {
            return NONE;
        }
        int turns = 0;
        for (int i = 0; i < n; i++) {
            int at = world.time + 2 * i;
            if (world.isReadyAt(net, one, at) && world.isReadyAt(net, two, at)) {
                turns++;
            }
        }
        return turns;
    }

    public int ahead(int net, int n) {
        if (world.netAt(net) == null || !isWithin(n, 1, MOST_TURNS) || !hasTimeFor(n)) {
            return NONE;
        }
        paperWith(world.share).heardInTurns(n);
        Net of = paper.nets[net];
        return of.isCasting ? CASTING : of.chosen;
    }

    public int together(int net, int link, int other) {
        Link one = world.linkAt(net, link);
        Link two = world.linkAt(net, other);
        if (one == null || two == null || link == other) {
            return NONE;
        }
        for (int i = 0; i < 2000; i += 2) {
            int at = world.time + i;
            if (one.frames.isDue(at) && two.frames.isDue(at)) {
                return at;
            }
        }
        return NONE;
    }

    // ---- questions: nets, counts ----

    public int ranked(int net, int i) {
        Net of = world.netAt(net);
        if (of == null || !isWithin(i, 0, CHANNELS - 1)) {
            return NONE;
        }
        for (int channel = 0; channel < CHANNELS; channel++) {
            if (of.sentOn[channel] > 0 && of.rankOf(channel) == i) {
                return channel;
            }
        }
        return NONE;
    }

    public int quiet(int net, int n) {
        Net of = world.netAt(net);
        if (of == null || !isWithin(n, 0, 9999)) {
            return NONE;
        }
        int bits = 0;
        for (int i = 0; i < of.linkCount && i < LINKS; i++) {
            if ((world.time - of.links[i].lastHeard) / 2 >= n) {
                bits |= 1 << i;
            }
        }
        return bits;
    }

    public int bestShare(int n) {
        if (!isWithin(n, 1, 32) || !hasTimeFor(n)) {
            return NONE;
        }
        int best = 0;
        int most = NONE;
        for (int share = 0; share <= SHARE_ROW; share += 2) {
            int heard = paperWith(share).heardInTurns(n);
            if (heard > most) {
                most = heard;
                best = share;
            }
        }
        return best;
    }

    public int ofNet(int net, int what) {
        Net of = world.netAt(net);
        if (of == null) {
            return NONE;
        }
        switch (what) {
            case 0: return of.master;
            case 1: return of.offset;
            case 2: return of.linkCount;
            case 3: return of.polled;
            case 4: return of.castCount;
            case 5: return of.firstCastSent;
            case 6: return of.castBit;
            default: return NONE;
        }
    }

    public int count(int what) {
        switch (what) {
            case 0: return world.time;
            case 1: return world.radioCount;
            case 2: return world.seed;
            case 3: return world.share;
            case 4: return world.heardOfAll();
            case 5: return refusals[-CANNOT_BE - 1];
            case 6: return refusals[-NO_SUCH - 1];
            case 7: return refusals[-NOT_NOW - 1];
            case 8: return refusals[-NO_ROOM - 1];
            case 9: return pastCount;
            case 10: return world.tallies[PACKETS];
            case 11: return world.tallies[ANSWERS];
            case 12: return world.tallies[LOST + BY_NOISE];
            case 13: return world.tallies[LOST + BY_CLASH];
            case 14: return world.tallies[LOST + BY_STEP];
            case 15: return world.tallies[PASSED];
            case 16: return world.tallies[DROPPED];
            case 17: return world.tallies[CASTS_SENT];
            case 18: return world.repeats;
            case 19: return world.tallies[NEW_MAPS];
            default: return NONE;
        }
    }

    public int status() {
        return latestRefusal;
    }

    // ---- what the calls share ----

    private int refuse(int why) {
        latestRefusal = why;
        int at = -why - 1;
        if (at >= 0 && at < refusals.length) {
            refusals[at]++;
        }
        return why;
    }

    private int accept(int answer) {
        latestRefusal = 0;
        return answer;
    }

    private void keepForUndo(int act) {
        past[pastNext].copyFrom(world);
        pastActs[pastNext] = act;
        pastNext = (pastNext + 1) % KEPT;
        pastCount = Math.min(pastCount + 1, KEPT);
    }

    private int tellMap(Net of, int newMap, int turns) {
        keepForUndo(MAP_ACT);
        of.tellMap(newMap, world.time + 2 * turns);
        return accept(of.plan.instant);
    }

    private boolean hasTimeFor(int turns) {
        return world.time + 2 * turns <= LAST_TIME;
    }

    private World paperWith(int share) {
        paper.copyFrom(world);
        paper.share = share;
        return paper;
    }

    private Plan planOf(int net, int link) {
        Net of = world.netAt(net);
        if (of == null) {
            return null;
        }
        if (link == NONE) {
            return of.plan;
        }
        Link member = of.linkAt(link);
        return member == null ? null : member.plan;
    }

    // An OFFSET moves the CLOCK alone, so NET 1's hops of all OFFSETS lie in one row.
    private void noteHops(int n) {
        for (int i = 0; i < n && i < hopsOfFirst.length; i++) {
            hopsOfFirst[i] = world.channelBy(0, world.nets[0].plan.map, world.time + i);
        }
        int address = world.addressOf(world.nets[1].master);
        for (int i = 0; i < n + OFFSETS_TRIED && i < hopsOfSecond.length; i++) {
            hopsOfSecond[i] = byMap(hopOf(address, world.time + i), world.nets[1].plan.map);
        }
    }

    private int clashesAt(int offset, int n) {
        int times = 0;
        for (int i = 0; i < n && i < hopsOfFirst.length; i++) {
            if (i + offset < hopsOfSecond.length && hopsOfFirst[i] == hopsOfSecond[i + offset]) {
                times++;
            }
        }
        return times;
    }

    private static boolean isWithin(int v, int least, int most) {
        return v >= least && v <= most;
    }

    private static boolean isEvenWithin(int v, int least, int most) {
        return isWithin(v, least, most) && v % 2 == 0;
    }

    private static boolean isTerm(int what, int v) {
        switch (what) {
            case 0: return isWithin(v, 0, LAST_SEED);
            case 1: return isEvenWithin(v, 0, SHARE_ROW);
            case 2: return isWithin(v, 1, 4);
            default: return false;
        }
    }

    private static boolean isMap(int channels) {
        return (channels & ~ALL_CHANNELS) == 0 && Integer.bitCount(channels) >= LEAST_MAP;
    }

    private static int bit(boolean v) {
        return v ? 1 : 0;
    }

    private static int greatestDivisor(int a, int b) {
        int one = a;
        int two = b;
        for (int i = 0; i < 64 && two != 0; i++) {
            int rest = one % two;
            one = two;
            two = rest;
        }
        return one;
    }

    private static int hopOf(int address, int clock) {
        int z = ((address & 31) + (clock & 31)) % 32;
        z = z ^ (address >> 5 & 31) ^ (clock >> 7 & 31);
        int p = (address >> 10 & 511) ^ (clock >> 5 & 511);
        for (int k = 0; k < EXCHANGE_ONE.length && k < EXCHANGE_OTHER.length; k++) {
            int one = EXCHANGE_ONE[k];
            int other = EXCHANGE_OTHER[k];
            boolean differ = ((z >> one ^ z >> other) & 1) == 1;
            if ((p >> k & 1) == 1 && differ) {
                z ^= 1 << one | 1 << other;
            }
        }
        int odd = (clock & 1) == 1 ? 13 : 0;
        return (z + (address >> 19 & 31) + odd) % CHANNELS;
    }

    private static int byMap(int hop, int channels) {
        int many = Integer.bitCount(channels);
        if (many == 0 || (channels >> hop & 1) == 1) {
            return hop;
        }
        int below = hop % many;
        for (int channel = 0; channel < CHANNELS; channel++) {
            if ((channels >> channel & 1) == 1) {
                if (below == 0) {
                    return channel;
                }
                below--;
            }
        }
        return hop;
    }

    /** What a NET or a MEMBER holds: its MAP, its NEXT MAP (0 is none) and the INSTANT of that. */
    private static final class Plan {
        int map = ALL_CHANNELS;
        int next = 0;
        int instant = NONE;

        void copyFrom(Plan other) {
            map = other.map;
            next = other.next;
            instant = other.instant;
        }

        boolean hasNext() {
            return next != 0;
        }

        void expect(int newMap, int when) {
            next = newMap;
            instant = when;
        }

        void takeAtOnce(int newMap) {
            map = newMap;
            next = 0;
            instant = NONE;
        }

        boolean changesAt(int time) {
            if (next == 0 || instant > time) {
                return false;
            }
            takeAtOnce(next);
            return true;
        }

        boolean isLike(Plan other) {
            return map == other.map && next == other.next && instant == other.instant;
        }
    }

    /** A row DOWN or UP with the BITS of both its ends. */
    private static final class Row {
        final int[] numbers = new int[ROW];
        final int[] since = new int[ROW];
        int size;
        int sendBit;
        int heardBit;
        int heard;
        int hash;
        int greatestLag;

        void begin() {
            size = 0;
            sendBit = 0;
            heardBit = 1;
            heard = 0;
            hash = 0;
            greatestLag = 0;
        }

        void copyFrom(Row other) {
            System.arraycopy(other.numbers, 0, numbers, 0, ROW);
            System.arraycopy(other.since, 0, since, 0, ROW);
            size = other.size;
            sendBit = other.sendBit;
            heardBit = other.heardBit;
            heard = other.heard;
            hash = other.hash;
            greatestLag = other.greatestLag;
        }

        boolean isFull() {
            return size >= ROW;
        }

        void append(int number, int time) {
            if (size < ROW) {
                numbers[size] = number;
                since[size] = time;
                size++;
            }
        }

        /** The first NUMBER reaches its hearer: true if it is HEARD, not heard again. */
        boolean hearFirst() {
            if (size == 0 || sendBit == heardBit) {
                return false;
            }
            heardBit = sendBit;
            heard++;
            hash = 31 * hash + numbers[0] + 1;
            return true;
        }

        void takeFirst(int time) {
            if (size == 0) {
                return;
            }
            greatestLag = Math.max(greatestLag, (time - since[0]) / 2);
            for (int i = 1; i < size && i < ROW; i++) {
                numbers[i - 1] = numbers[i];
                since[i - 1] = since[i];
            }
            size--;
            sendBit = 1 - sendBit;
        }
    }

    /** What a LINK has RESERVED (PERIOD 0: nothing) and its open FRAME. */
    private static final class Frames {
        int period;
        int phase;
        int window;
        int got;
        int missed;
        int turnsLeft;

        void set(int newPeriod, int newPhase, int newWindow) {
            period = newPeriod;
            phase = newPhase;
            window = newWindow;
            got = 0;
            missed = 0;
            turnsLeft = 0;
        }

        void copyFrom(Frames other) {
            period = other.period;
            phase = other.phase;
            window = other.window;
            got = other.got;
            missed = other.missed;
            turnsLeft = other.turnsLeft;
        }

        boolean isDue(int time) {
            return period != 0 && time % period == phase;
        }

        void openAt(int time) {
            if (isDue(time)) {
                turnsLeft = window;
            }
        }

        void answer() {
            if (turnsLeft > 0) {
                got++;
                turnsLeft = 0;
            }
        }

        void endTurn() {
            if (turnsLeft > 0) {
                turnsLeft--;
                if (turnsLeft == 0) {
                    missed++;
                }
            }
        }
    }

    /** A MEMBER of a NET, and what its MASTER has for it. */
    private static final class Link {
        final Plan plan = new Plan();
        final Row down = new Row();
        final Row up = new Row();
        final Frames frames = new Frames();
        int radio;
        boolean known;
        // The first NUMBER of UP was heard, but its MEMBER has heard no packet since.
        boolean upWasHeard;
        int sniffPeriod;
        int sniffTries;
        int weight;
        int castBit;
        int castsHeard;
        int castHash;
        int timesChosen;
        int turnsReady;
        int why;
        int lastHeard;
        // Of the TURN that is under way alone.
        boolean isReady;

        void begin(int newRadio, Plan held, int time) {
            radio = newRadio;
            plan.copyFrom(held);
            known = true;
            down.begin();
            up.begin();
            upWasHeard = false;
            frames.set(0, 0, 0);
            sniffPeriod = 0;
            sniffTries = 0;
            weight = 1;
            castBit = 1;
            castsHeard = 0;
            castHash = 0;
            timesChosen = 0;
            turnsReady = 0;
            why = 0;
            lastHeard = time;
            isReady = false;
        }

        void copyFrom(Link other) {
            plan.copyFrom(other.plan);
            down.copyFrom(other.down);
            up.copyFrom(other.up);
            frames.copyFrom(other.frames);
            radio = other.radio;
            known = other.known;
            upWasHeard = other.upWasHeard;
            sniffPeriod = other.sniffPeriod;
            sniffTries = other.sniffTries;
            weight = other.weight;
            castBit = other.castBit;
            castsHeard = other.castsHeard;
            castHash = other.castHash;
            timesChosen = other.timesChosen;
            turnsReady = other.turnsReady;
            why = other.why;
            lastHeard = other.lastHeard;
        }

        boolean isAwake(int time) {
            return sniffPeriod == 0 || time % sniffPeriod < 2 * sniffTries;
        }

        void hearCast(int number, int itsBit) {
            if (castBit != itsBit) {
                castBit = itsBit;
                castsHeard++;
                castHash = 31 * castHash + number + 1;
            }
        }

        void hearMapOf(Plan net) {
            if (net.hasNext()) {
                plan.expect(net.next, net.instant);
            } else {
                plan.takeAtOnce(net.map);
            }
        }
    }

    /** A NET; without a MASTER it is not there. */
    private static final class Net {
        final Plan plan = new Plan();
        final int[] casts = new int[CASTS];
        final int[] sentOn = new int[CHANNELS];
        final int[] answeredOn = new int[CHANNELS];
        final Link[] links = new Link[LINKS];
        int master = NONE;
        int offset = 0;
        int mapAhead = ALL_CHANNELS;
        int linkCount = 0;
        int polled = NONE;
        int pollsInRow = 0;
        int castCount = 0;
        int castBit = 0;
        int firstCastSent = 0;
        // Of the TURN that is under way, or was the latest, alone.
        boolean isCasting = false;
        int chosen = NONE;
        int hopInSlot = NONE;
        int channelInSlot = NONE;
        int masterSentOn = NONE;
        boolean packetHeard = false;

        Net() {
            for (int i = 0; i < LINKS; i++) {
                links[i] = new Link();
            }
        }

        void copyFrom(Net other) {
            plan.copyFrom(other.plan);
            System.arraycopy(other.casts, 0, casts, 0, CASTS);
            System.arraycopy(other.sentOn, 0, sentOn, 0, CHANNELS);
            System.arraycopy(other.answeredOn, 0, answeredOn, 0, CHANNELS);
            for (int i = 0; i < other.linkCount && i < LINKS; i++) {
                links[i].copyFrom(other.links[i]);
            }
            master = other.master;
            offset = other.offset;
            mapAhead = other.mapAhead;
            linkCount = other.linkCount;
            polled = other.polled;
            pollsInRow = other.pollsInRow;
            castCount = other.castCount;
            castBit = other.castBit;
            firstCastSent = other.firstCastSent;
        }

        Link linkAt(int i) {
            return i < 0 || i >= linkCount || i >= LINKS ? null : links[i];
        }

        Link linkOfRadio(int radio) {
            for (int i = 0; i < linkCount && i < LINKS; i++) {
                if (links[i].radio == radio) {
                    return links[i];
                }
            }
            return null;
        }

        boolean holds(int radio) {
            for (int i = 0; i < linkCount && i < LINKS; i++) {
                if (links[i].radio == radio) {
                    return true;
                }
            }
            return master != NONE && master == radio;
        }

        void addMember(int radio, int time) {
            if (linkCount < LINKS) {
                links[linkCount].begin(radio, plan, time);
                linkCount++;
            }
        }

        void removeMember(int i) {
            Link gone = linkAt(i);
            if (gone == null) {
                return;
            }
            for (int k = i + 1; k < linkCount && k < LINKS; k++) {
                links[k - 1] = links[k];
            }
            linkCount--;
            links[linkCount] = gone;
            if (polled == i) {
                // The one below was not polled last: the next poll looks behind it.
                pollsInRow = NONE;
            }
            if (polled >= i) {
                polled--;
            }
        }

        void tellMap(int newMap, int when) {
            plan.expect(newMap, when);
            for (int i = 0; i < linkCount && i < LINKS; i++) {
                links[i].known = false;
            }
        }

        int badChannels(int n) {
            int bits = 0;
            for (int channel = 0; channel < CHANNELS; channel++) {
                boolean inMap = (plan.map >> channel & 1) == 1;
                if (inMap && sentOn[channel] >= n && 2 * answeredOn[channel] < sentOn[channel]) {
                    bits |= 1 << channel;
                }
            }
            return bits;
        }

        /** The 8 CHANNELS of the MAP with most ANSWERED, lesser ones first. */
        int mostAnswered() {
            int bits = 0;
            for (int i = 0; i < LEAST_MAP; i++) {
                int best = NONE;
                for (int channel = 0; channel < CHANNELS; channel++) {
                    boolean isLeft = ((plan.map & ~bits) >> channel & 1) == 1;
                    if (isLeft && (best == NONE || answeredOn[channel] > answeredOn[best])) {
                        best = channel;
                    }
                }
                if (best != NONE) {
                    bits |= 1 << best;
                }
            }
            return bits;
        }

        /** How many CHANNELS with SENT above 0 stand ahead of one such. */
        int rankOf(int channel) {
            int ahead = 0;
            for (int other = 0; other < CHANNELS; other++) {
                long its = (long) answeredOn[other] * sentOn[channel];
                long own = (long) answeredOn[channel] * sentOn[other];
                if (sentOn[other] > 0 && (its > own || its == own && other < channel)) {
                    ahead++;
                }
            }
            return ahead;
        }

        int firstWithOpenFrame() {
            for (int i = 0; i < linkCount && i < LINKS; i++) {
                if (links[i].isReady && links[i].frames.turnsLeft > 0) {
                    return i;
                }
            }
            return NONE;
        }

        int firstNotKnown() {
            for (int i = 0; i < linkCount && i < LINKS; i++) {
                if (links[i].isReady && !links[i].known) {
                    return i;
                }
            }
            return NONE;
        }

        int nextPolled() {
            Link latest = linkAt(polled);
            boolean goesOn = latest != null && pollsInRow != NONE && pollsInRow < latest.weight;
            if (goesOn && latest.isReady) {
                pollsInRow++;
                return polled;
            }
            for (int step = 1; step <= linkCount; step++) {
                int i = (polled + step) % linkCount;
                Link next = linkAt(i);
                if (next != null && next.isReady) {
                    pollsInRow = i == polled && pollsInRow != NONE ? pollsInRow + 1 : 1;
                    polled = i;
                    return i;
                }
            }
            return NONE;
        }

        void tallySent() {
            if (masterSentOn >= 0 && masterSentOn < CHANNELS) {
                sentOn[masterSentOn]++;
            }
        }

        void tallyAnswered() {
            if (masterSentOn >= 0 && masterSentOn < CHANNELS) {
                answeredOn[masterSentOn]++;
            }
        }

        void endCastTurn(int repeats) {
            for (int i = 0; i < linkCount && i < LINKS && packetHeard; i++) {
                if (links[i].isReady && byMap(hopInSlot, links[i].plan.map) == channelInSlot) {
                    links[i].hearCast(casts[0], castBit);
                }
            }
            firstCastSent++;
            if (firstCastSent >= repeats) {
                dropFirstCast();
            }
        }

        void dropFirstCast() {
            for (int i = 1; i < castCount && i < CASTS; i++) {
                casts[i - 1] = casts[i];
            }
            castCount--;
            firstCastSent = 0;
            castBit = 1 - castBit;
        }
    }

    /** All that acts change and IMAGES keep, and how a TURN goes. */
    private static final class World {
        final int[] addresses = new int[RADIOS];
        final int[] noises = new int[CHANNELS];
        final int[] tallies = new int[TALLIES];
        final Net[] nets = new Net[NETS];
        int radioCount = 0;
        int time = 0;
        int seed = 1;
        int share = SHARE_ROW / 2;
        int repeats = 2;
        // NUMBERS HEARD in the latest heardInTurns().
        int heardNow = 0;

        World() {
            for (int i = 0; i < NETS; i++) {
                nets[i] = new Net();
            }
        }

        void copyFrom(World other) {
            System.arraycopy(other.addresses, 0, addresses, 0, RADIOS);
            System.arraycopy(other.noises, 0, noises, 0, CHANNELS);
            System.arraycopy(other.tallies, 0, tallies, 0, TALLIES);
            for (int i = 0; i < NETS; i++) {
                nets[i].copyFrom(other.nets[i]);
            }
            radioCount = other.radioCount;
            time = other.time;
            seed = other.seed;
            share = other.share;
            repeats = other.repeats;
        }

        boolean hasRadio(int radio) {
            return radio >= 0 && radio < radioCount;
        }

        /** A NET that is there, or null. */
        Net netAt(int net) {
            return net < 0 || net >= NETS || nets[net].master == NONE ? null : nets[net];
        }

        Link linkAt(int net, int link) {
            Net of = netAt(net);
            return of == null ? null : of.linkAt(link);
        }

        boolean hasBothNets() {
            return netAt(0) != null && netAt(1) != null;
        }

        boolean isPresent(int radio, int net, int slot) {
            if (!nets[net].holds(radio)) {
                return false;
            }
            if (!nets[1 - net].holds(radio)) {
                return true;
            }
            return slot % SHARE_ROW < share == (net == 0);
        }

        boolean isReadyAt(int net, Link link, int at) {
            return isPresent(link.radio, net, at) && link.isAwake(at);
        }

        int addressOf(int radio) {
            return hasRadio(radio) ? addresses[radio] : 0;
        }

        int hopIn(int net, int slot) {
            return hopOf(addressOf(nets[net].master), slot + nets[net].offset);
        }

        int channelBy(int net, int channels, int slot) {
            return byMap(hopIn(net, slot), channels);
        }

        boolean mastersMeet(int slot) {
            return channelBy(0, nets[0].plan.map, slot) == channelBy(1, nets[1].plan.map, slot);
        }

        /** Of 16 how many DRAWS a slot's CHANNEL lets through; 0 out of step. */
        int clearOf(int net, Link link, int slot) {
            int hop = hopIn(net, slot);
            int channel = byMap(hop, nets[net].plan.map);
            boolean inStep = byMap(hop, link.plan.map) == channel;
            return inStep ? FULL_NOISE - noiseOn(channel) : 0;
        }

        int noiseOn(int channel) {
            return channel >= 0 && channel < CHANNELS ? noises[channel] : 0;
        }

        int framesMissed() {
            int missed = 0;
            for (int n = 0; n < NETS; n++) {
                for (int i = 0; i < nets[n].linkCount && i < LINKS; i++) {
                    missed += nets[n].links[i].frames.missed;
                }
            }
            return missed;
        }

        int linksOfOtherMap() {
            int others = 0;
            for (int n = 0; n < NETS; n++) {
                for (int i = 0; i < nets[n].linkCount && i < LINKS; i++) {
                    if (nets[n].links[i].plan.map != nets[n].plan.map) {
                        others++;
                    }
                }
            }
            return others;
        }

        int heardOfAll() {
            int heard = 0;
            for (int n = 0; n < NETS; n++) {
                for (int i = 0; i < nets[n].linkCount && i < LINKS; i++) {
                    heard += nets[n].links[i].down.heard + nets[n].links[i].up.heard;
                }
            }
            return heard;
        }

        int heardInTurns(int turns) {
            heardNow = 0;
            for (int i = 0; i < turns; i++) {
                goOneTurn();
            }
            return heardNow;
        }

        void goOneTurn() {
            for (int n = 0; n < NETS; n++) {
                changeMaps(nets[n]);
                beginTurnOfLinks(n);
            }
            for (int n = 0; n < NETS; n++) {
                chooseIn(n);
                tunePacket(n);
            }
            for (int n = 0; n < NETS; n++) {
                sendPacket(n);
            }
            for (int n = 0; n < NETS; n++) {
                hearPacket(n);
                tuneAnswer(n);
            }
            for (int n = 0; n < NETS; n++) {
                sendAnswer(n);
            }
            for (int n = 0; n < NETS; n++) {
                endTurnOfLinks(nets[n]);
            }
            time += 2;
        }

        void changeMaps(Net net) {
            int old = net.plan.map;
            if (net.plan.changesAt(time)) {
                net.mapAhead = old;
                tallies[NEW_MAPS]++;
            }
            for (int i = 0; i < net.linkCount && i < LINKS; i++) {
                net.links[i].plan.changesAt(time);
            }
        }

        void beginTurnOfLinks(int n) {
            for (int i = 0; i < nets[n].linkCount && i < LINKS; i++) {
                Link link = nets[n].links[i];
                link.frames.openAt(time);
                link.isReady = isReadyAt(n, link, time);
                if (link.isReady) {
                    link.turnsReady++;
                }
            }
        }

        void endTurnOfLinks(Net net) {
            for (int i = 0; i < net.linkCount && i < LINKS; i++) {
                net.links[i].frames.endTurn();
            }
        }

        void chooseIn(int n) {
            Net net = nets[n];
            net.chosen = NONE;
            net.isCasting = false;
            if (net.master == NONE || !isPresent(net.master, n, time)) {
                return;
            }
            net.chosen = net.firstWithOpenFrame();
            if (net.chosen == NONE) {
                net.chosen = net.firstNotKnown();
            }
            if (net.chosen == NONE && net.castCount > 0) {
                net.isCasting = true;
                return;
            }
            if (net.chosen == NONE) {
                net.chosen = net.nextPolled();
            }
            Link link = net.linkAt(net.chosen);
            if (link != null) {
                link.timesChosen++;
            }
        }

        int draw() {
            seed = (1103 * seed + 12345) % 1000003;
            return seed % FULL_NOISE;
        }

        /** 0, or what keeps all from hearing what a NET sends in this slot. */
        int lossOnAir(int n) {
            int channel = nets[n].channelInSlot;
            if (draw() < noiseOn(channel)) {
                return BY_NOISE;
            }
            return nets[1 - n].channelInSlot == channel ? BY_CLASH : 0;
        }

        /** The CHANNEL on which a NET's MASTER sends in this TURN, or NONE. */
        void tunePacket(int n) {
            Net net = nets[n];
            Link link = net.linkAt(net.chosen);
            net.packetHeard = false;
            net.channelInSlot = NONE;
            if (net.isCasting || link != null) {
                // One that missed the INSTANT hops by the old MAP yet: every other TURN looks there.
                boolean byOldMap = link != null && !link.known
                        && !net.plan.hasNext() && time % 4 == 2;
                net.hopInSlot = hopIn(n, time);
                net.channelInSlot = byMap(net.hopInSlot, byOldMap ? net.mapAhead : net.plan.map);
            }
            net.masterSentOn = net.channelInSlot;
        }

        void sendPacket(int n) {
            Net net = nets[n];
            if (net.channelInSlot == NONE) {
                return;
            }
            tallies[PACKETS]++;
            int loss = lossOnAir(n);
            Link link = net.linkAt(net.chosen);
            if (link == null) {
                tallies[CASTS_SENT]++;
            } else {
                net.tallySent();
                if (loss == 0 && byMap(net.hopInSlot, link.plan.map) != net.channelInSlot) {
                    loss = BY_STEP;
                }
            }
            net.packetHeard = loss == 0;
            if (loss != 0) {
                tallies[LOST + loss]++;
            }
            if (loss != 0 && link != null) {
                link.why = 10 + loss;
            }
        }

        void hearPacket(int n) {
            Net net = nets[n];
            if (net.isCasting) {
                net.endCastTurn(repeats);
                return;
            }
            Link link = net.linkAt(net.chosen);
            if (link == null || !net.packetHeard) {
                return;
            }
            if (link.upWasHeard) {
                link.up.takeFirst(time);
                link.upWasHeard = false;
            }
            if (link.down.hearFirst()) {
                heardNow++;
                passOn(n, link);
            }
            if (!link.known) {
                link.hearMapOf(net.plan);
            }
        }

        void passOn(int n, Link link) {
            int number = link.down.numbers[0];
            Link other = nets[1 - n].linkOfRadio(link.radio);
            if (number < 128 || other == null) {
                return;
            }
            if (other.up.isFull()) {
                tallies[DROPPED]++;
            } else {
                other.up.append(number, time);
                tallies[PASSED]++;
            }
        }

        /** The CHANNEL on which a MEMBER answers in this TURN, or NONE. */
        void tuneAnswer(int n) {
            Net net = nets[n];
            Link link = net.linkAt(net.chosen);
            net.channelInSlot = NONE;
            if (link != null && net.packetHeard) {
                net.hopInSlot = hopIn(n, time + 1);
                net.channelInSlot = byMap(net.hopInSlot, link.plan.map);
            }
        }

        void sendAnswer(int n) {
            Net net = nets[n];
            Link link = net.linkAt(net.chosen);
            if (link == null || net.channelInSlot == NONE) {
                return;
            }
            tallies[ANSWERS]++;
            int loss = lossOnAir(n);
            if (loss == 0 && byMap(net.hopInSlot, net.plan.map) != net.channelInSlot) {
                loss = BY_STEP;
            }
            if (loss == 0) {
                hearAnswer(net, link);
            } else {
                tallies[LOST + loss]++;
                link.why = 20 + loss;
            }
        }

        void hearAnswer(Net net, Link link) {
            net.tallyAnswered();
            link.why = 0;
            link.lastHeard = time;
            link.down.takeFirst(time);
            if (link.up.hearFirst()) {
                heardNow++;
            }
            link.upWasHeard = link.up.size > 0;
            link.frames.answer();
            // Until it KNOWS the MASTER tells the MAP in every packet, so this answer tells it.
            link.known = true;
        }
    }
}
