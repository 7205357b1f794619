import java.util.Arrays;

/**
 * Seats for words: a chamber told as a text, whose districts elect words by what their speakers need to say.
 * The promises that it keeps are numbered in the document DOC.md; the words in capitals below are that document's.
 */
public final class WordSeats {
    public static final int NONE = -1;

    private static final int NO_SUCH = -2;
    private static final int NEGATIVE = -3;
    private static final int FAULTY = -4;
    private static final int UNTIMELY = -5;
    private static final int NOTHING = -6;
    private static final int BEYOND = -7;
    private static final int OTHER_WIDTH = -8;

    private static final int MOST_DISTRICTS = 4;
    private static final int MOST_WORDS = 9;
    private static final int MOST_SPEAKERS = 9;
    private static final int MOST_ROUNDS = 8;
    private static final int MOST_MEANINGS = 8;
    private static final int MOST_TERMS = 60;
    private static final int MOST_BYTES = 1600;
    private static final int MOST_NUMBERS = 60;
    private static final int PARTIES = 4;
    private static final int LAWS = 4;
    private static final int IMAGES = 3;
    private static final int SLOTS = 4;
    private static final int WIDTHS = 4;
    private static final int MOST_LISTED = 20;
    private static final int MOST_YEARS = 20;
    private static final int MOST_SEED = 2000000000;

    private final Tape tape = new Tape();
    private final Chamber draft = new Chamber();
    private final Reader reader = new Reader(tape, draft);
    private final Chamber now = new Chamber();
    private final Chamber[] images = new Chamber[IMAGES];
    private int imaged;
    private final Row[] slots = new Row[SLOTS];
    private final Election election = new Election(now);
    private final Tongue tongue = new Tongue(now);
    private final Parties parties = new Parties(now);
    private final Districting districting = new Districting(now, election);
    private final Speeches speeches = new Speeches(now, tongue);

    /** Promise 1. */
    public WordSeats() {
        for (int k = 0; k < IMAGES; k++) {
            images[k] = new Chamber();
        }
        for (int slot = 0; slot < SLOTS; slot++) {
            slots[slot] = new Row();
        }
    }

    /** Promise 2. */
    public int feed(int a, int b, int c, int d, int e) {
        if (!tape.hasRoom()) {
            return NONE;
        }
        tape.add(a);
        tape.add(b);
        tape.add(c);
        tape.add(d);
        tape.add(e);
        return tape.length;
    }

    /** Promise 3. */
    public int end(int n) {
        if (n < 0 || n > tape.length) {
            return NONE;
        }
        tape.length = n;
        return n;
    }

    /** Promise 4. */
    public int chamber() {
        reader.read();
        if (reader.fault != 0) {
            return FAULTY;
        }
        now.copyFrom(draft);
        tape.length = 0;
        return now.lines;
    }

    /** Promise 5. */
    public int fault(int what) {
        switch (what) {
            case 0:
                return reader.fault;
            case 1:
                return reader.place;
            default:
                return NONE;
        }
    }

    /** Promise 6. */
    public int word(int word, int what) {
        if (!now.hasWord(word)) {
            return NO_SUCH;
        }
        switch (what) {
            case 0:
                return now.letters[word];
            case 1:
                return now.home[word];
            case 2:
                return now.party[word];
            case 3:
                return now.means[word];
            case 4:
                return now.terms.idle[word];
            case 5:
                return holds(now.terms.dead, word) ? 1 : 0;
            default:
                return NO_SUCH;
        }
    }

    /** Promise 7. */
    public int speaker(int speaker, int what) {
        if (!now.hasSpeaker(speaker)) {
            return NO_SUCH;
        }
        switch (what) {
            case 0:
                return now.place[speaker];
            case 1:
                return now.weight[speaker];
            case 2:
                return now.comes[speaker];
            case 3:
                return now.needs[speaker];
            default:
                return NO_SUCH;
        }
    }

    /** Promise 8. */
    public int district(int district, int what) {
        if (!now.hasDistrict(district)) {
            return NO_SUCH;
        }
        switch (what) {
            case 0:
                return now.seats[district];
            case 1:
                return now.standingIn(district);
            case 2:
                return now.weightOf(now.speakersIn(district));
            default:
                return NO_SUCH;
        }
    }

    /** Promise 9. */
    public int likes(int speaker, int word) {
        if (!now.hasSpeaker(speaker) || !now.hasWord(word)) {
            return NO_SUCH;
        }
        return now.liking(speaker, word);
    }

    /** Promise 10. */
    public int order(int speaker, int i) {
        if (!now.hasSpeaker(speaker)) {
            return NO_SUCH;
        }
        election.open(now.place[speaker]);
        return election.inOrder(speaker, i);
    }

    /** Promise 11. */
    public int votes(int word) {
        if (!now.hasWord(word)) {
            return NO_SUCH;
        }
        election.open(now.home[word]);
        election.tallyFirst(election.standing);
        return election.tally[word];
    }

    /** Promise 12. */
    public int abstains(int district) {
        if (!now.hasDistrict(district)) {
            return NO_SUCH;
        }
        election.open(district);
        election.tallyFirst(election.standing);
        return election.roll - election.given;
    }

    /** Promise 13. */
    public int wins(int district, int law) {
        if (!now.hasDistrict(district) || !isLaw(law)) {
            return NO_SUCH;
        }
        election.open(district);
        election.hold(law);
        return election.winner;
    }

    /** Promise 14. */
    public int sits(int district, int law) {
        if (!now.hasDistrict(district) || !isLaw(law)) {
            return NO_SUCH;
        }
        return election.takerIn(district, law);
    }

    /** Promise 15. */
    public int with(int district, int law) {
        if (!now.hasDistrict(district) || !isLaw(law)) {
            return NO_SUCH;
        }
        election.open(district);
        election.hold(law);
        return election.winner == NONE ? NONE : election.won;
    }

    /** Promise 16. */
    public int struck(int district, int i) {
        if (!now.hasDistrict(district)) {
            return NO_SUCH;
        }
        election.open(district);
        election.hold(Election.STRIKE);
        return election.fallenAt(i);
    }

    /** Promise 17. */
    public int beats(int word, int other) {
        if (!now.hasWord(word) || !now.hasWord(other) || word == other) {
            return NO_SUCH;
        }
        election.open(now.home[word]);
        if (!holds(election.standing, word) || !holds(election.standing, other)) {
            return NO_SUCH;
        }
        return election.ahead(word, other);
    }

    /** Promise 18. */
    public int best(int district) {
        if (!now.hasDistrict(district)) {
            return NO_SUCH;
        }
        election.open(district);
        return election.beatsAll();
    }

    /** Promise 19. */
    public int unlike(int law, int other) {
        if (now.isNone() || !isLaw(law) || !isLaw(other)) {
            return NO_SUCH;
        }
        int unlike = 0;
        for (int district = 0; district < now.districts; district++) {
            if (election.takerIn(district, law) != election.takerIn(district, other)) {
                unlike++;
            }
        }
        return unlike;
    }

    /** Promise 20. */
    public int synonyms(int word) {
        if (!now.hasWord(word)) {
            return NO_SUCH;
        }
        int alike = 0;
        int standing = now.standingIn(now.home[word]);
        for (int other = 0; other < now.words; other++) {
            if (other != word && holds(standing, other) && now.means[other] == now.means[word]) {
                alike |= 1 << other;
            }
        }
        return alike;
    }

    /** Promise 21. */
    public int spoils(int word) {
        if (!now.hasWord(word) || holds(now.terms.dead, word)) {
            return NO_SUCH;
        }
        return election.takerWithout(word);
    }

    /** Promise 22. */
    public int spoilers() {
        return now.isNone() ? NO_SUCH : election.spoiling();
    }

    /** Promise 23. */
    public int elected() {
        return now.isNone() ? NO_SUCH : election.takers();
    }

    /** Promise 24. */
    public int sitting() {
        return now.isNone() ? NO_SUCH : now.terms.sitting;
    }

    /** Promise 25. */
    public int term() {
        if (now.isNone()) {
            return NO_SUCH;
        }
        if (now.terms.held >= MOST_TERMS) {
            return UNTIMELY;
        }
        now.terms.hold(election.takers(), now.words, now.dies);
        return Integer.bitCount(now.terms.sitting);
    }

    /** Promise 26. */
    public int undo() {
        if (now.isNone()) {
            return NO_SUCH;
        }
        if (now.terms.held == 0) {
            return UNTIMELY;
        }
        now.terms.takeBack();
        return now.terms.held;
    }

    /** Promise 27. */
    public int led(int i) {
        if (now.isNone()) {
            return NO_SUCH;
        }
        return i < 0 || i >= now.terms.held ? NONE : now.terms.sat[i];
    }

    /** Promise 28. */
    public int dies() {
        if (now.isNone()) {
            return NO_SUCH;
        }
        return now.terms.firstDeath(election.takers(), now.words, now.dies);
    }

    /** Promise 29. */
    public int said(int meaning) {
        if (!now.hasMeaning(meaning)) {
            return NO_SUCH;
        }
        tongue.learn(now.terms.sitting);
        return tongue.told(tongue.plain[meaning]);
    }

    /** Promise 30. */
    public int least(int meaning) {
        if (!now.hasMeaning(meaning)) {
            return NO_SUCH;
        }
        tongue.learn(now.terms.sitting);
        return tongue.told(tongue.brief[meaning]);
    }

    /** Promise 31. */
    public int round(int meaning) {
        if (!now.hasMeaning(meaning)) {
            return NO_SUCH;
        }
        tongue.learn(now.terms.sitting);
        return tongue.detour(meaning);
    }

    /** Promise 32. */
    public int dumb() {
        if (now.isNone()) {
            return NO_SUCH;
        }
        tongue.learn(now.terms.sitting);
        return tongue.unsayable();
    }

    /** Promise 33. */
    public int cost(int speaker) {
        if (!now.hasSpeaker(speaker)) {
            return NO_SUCH;
        }
        tongue.learn(now.terms.sitting);
        return tongue.price(speaker);
    }

    /** Promise 34. */
    public int costs() {
        return now.isNone() ? NO_SUCH : tongue.priceOfAll(now.terms.sitting);
    }

    /** Promise 35. */
    public int by(int set) {
        return now.isNone() || !isSet(set, now.words) ? NO_SUCH : tongue.priceOfAll(set);
    }

    /** Promise 36. */
    public int cheapest(int district) {
        return now.hasDistrict(district) ? tongue.cheapestIn(district) : NO_SUCH;
    }

    /** Promise 37. */
    public int cover(int set) {
        if (now.isNone() || !isSet(set, now.meanings)) {
            return NO_SUCH;
        }
        int words = tongue.fewestFor(set);
        return words == NONE ? NONE : Integer.bitCount(words);
    }

    /** Promise 38. */
    public int covers(int set) {
        return now.isNone() || !isSet(set, now.meanings) ? NO_SUCH : tongue.fewestFor(set);
    }

    /** Promise 39. */
    public int house() {
        return now.isNone() ? NO_SUCH : tongue.priceOfAll(tongue.cheapestHouse());
    }

    /** Promise 40. */
    public int housed() {
        return now.isNone() ? NO_SUCH : tongue.cheapestHouse();
    }

    /** Promise 41. */
    public int feint(int speaker) {
        if (!now.hasSpeaker(speaker)) {
            return NO_SUCH;
        }
        election.seekFeint(speaker);
        return election.trick;
    }

    /** Promise 42. */
    public int gains(int speaker) {
        if (!now.hasSpeaker(speaker)) {
            return NO_SUCH;
        }
        election.seekFeint(speaker);
        return election.profit;
    }

    /** Promise 43. */
    public int restless() {
        if (now.isNone()) {
            return NO_SUCH;
        }
        int restless = 0;
        for (int speaker = 0; speaker < now.speakers; speaker++) {
            election.seekFeint(speaker);
            if (election.trick != NONE) {
                restless |= 1 << speaker;
            }
        }
        return restless;
    }

    /** Promise 44. */
    public int seats(int party) {
        return now.isNone() || !isParty(party) ? NO_SUCH : parties.seatsOf(1 << party);
    }

    /** Promise 45. */
    public int majority(int set) {
        if (now.isNone() || !isSet(set, PARTIES)) {
            return NO_SUCH;
        }
        return parties.rule(set) ? 1 : 0;
    }

    /** Promise 46. */
    public int share(int party, int what) {
        if (now.isNone() || !isParty(party) || what < 0 || what > 1) {
            return NO_SUCH;
        }
        int turns = parties.turns(party);
        return (what == 0 ? turns : Parties.ORDERS) / Parties.commonDivisor(turns);
    }

    /** Promise 47. */
    public int coalition() {
        return now.isNone() ? NO_SUCH : parties.smallestRule();
    }

    /** Promise 48. */
    public int breaks(int set) {
        return now.isNone() || !isSet(set, PARTIES) ? NO_SUCH : parties.needed(set);
    }

    /** Promise 49. */
    public int lists(int n, int party) {
        if (now.isNone() || n < 0 || n > MOST_LISTED || !isParty(party)) {
            return NO_SUCH;
        }
        parties.gather(election);
        parties.allot(n);
        return parties.allotted[party];
    }

    /** Promise 50. */
    public int rigged(int party) {
        if (!isParty(party) || now.districts == 0) {
            return NO_SUCH;
        }
        if (!districting.canDraw()) {
            return NONE;
        }
        districting.draw(party);
        return districting.most;
    }

    /** Promise 51. */
    public int put(int party, int speaker) {
        if (!isParty(party) || !now.hasSpeaker(speaker) || now.districts == 0) {
            return NO_SUCH;
        }
        if (!districting.canDraw()) {
            return NONE;
        }
        districting.draw(party);
        return districting.placeOf(speaker);
    }

    /** Promise 52. */
    public int speech(int slot) {
        int refused = refusesSpeech(slot);
        return refused != 0 ? refused : speeches.firstUnsaid(slots[slot], now.terms.sitting);
    }

    /** Promise 53. */
    public int fits(int slot) {
        int refused = refusesSpeech(slot);
        if (refused != 0) {
            return refused;
        }
        speeches.survey(slots[slot]);
        return speeches.ways;
    }

    /** Promise 54. */
    public int sure(int slot, int what) {
        if (what < 0 || what > 1) {
            return NO_SUCH;
        }
        int refused = refusesSpeech(slot);
        if (refused != 0) {
            return refused;
        }
        speeches.survey(slots[slot]);
        return what == 0 ? speeches.always : speeches.ever;
    }

    /** Promise 55. */
    public int stand(int word, int district) {
        if (!now.hasWord(word) || !now.hasDistrict(district)) {
            return NO_SUCH;
        }
        if (now.terms.held > 0) {
            return UNTIMELY;
        }
        int before = now.home[word];
        now.home[word] = district;
        return before;
    }

    /** Promise 56. */
    public int need(int speaker, int set) {
        if (!now.hasSpeaker(speaker) || set < 1 || !isSet(set, now.meanings)) {
            return NO_SUCH;
        }
        int before = now.needs[speaker];
        now.needs[speaker] = set;
        return before;
    }

    /** Promise 57. */
    public int bill(int what, int n) {
        if (now.isNone()) {
            return NO_SUCH;
        }
        int before = NO_SUCH;
        if (what == 0 && isLaw(n)) {
            before = now.law;
            now.law = n;
        } else if (what == 1 && n >= 0 && n <= 100) {
            before = now.bar;
            now.bar = n;
        } else if (what == 2 && n >= 1 && n <= 9) {
            before = now.dies;
            now.dies = n;
        }
        return before;
    }

    /** Promise 58. */
    public int drawn(int seed, int district) {
        if (!isSeed(seed) || !now.hasDistrict(district)) {
            return NO_SUCH;
        }
        return election.takerDrawn(seed, district);
    }

    /** Promise 59. */
    public int years(int seed, int n, int word) {
        if (!isSeed(seed) || n < 1 || n > MOST_YEARS || !now.hasWord(word)) {
            return NO_SUCH;
        }
        int years = 0;
        for (int i = 0; i < n; i++) {
            if (election.takerDrawn(seed + i, now.home[word]) == word) {
                years++;
            }
        }
        return years;
    }

    /** Promise 60. */
    public int count(int what) {
        switch (what) {
            case 0:
                return now.meanings;
            case 1:
                return now.law;
            case 2:
                return now.bar;
            case 3:
                return now.dies;
            case 4:
                return now.districts;
            case 5:
                return now.words;
            case 6:
                return now.speakers;
            case 7:
                return now.rounds.known;
            case 8:
                return now.terms.held;
            case 9:
                return now.lines;
            case 10:
                return tape.length;
            case 11:
                return filledSlots();
            default:
                return NONE;
        }
    }

    /** Promise 61. */
    public int image(int k) {
        if (k < 0 || k >= IMAGES) {
            return NO_SUCH;
        }
        images[k].copyFrom(now);
        imaged |= 1 << k;
        return 0;
    }

    /** Promise 62. */
    public int back(int k) {
        if (k < 0 || k >= IMAGES) {
            return NO_SUCH;
        }
        if (!holds(imaged, k)) {
            return NOTHING;
        }
        now.copyFrom(images[k]);
        return 0;
    }

    /** Promise 63. */
    public int row(int slot, int width, int n) {
        if (!isSlot(slot) || width < 0 || width >= WIDTHS || n > MOST_NUMBERS) {
            return NO_SUCH;
        }
        if (n < 0) {
            return NEGATIVE;
        }
        slots[slot].lay(width, n);
        return 0;
    }

    /** Promise 64. */
    public int write(int slot, int i, long v) {
        if (!isSlot(slot)) {
            return NO_SUCH;
        }
        if (slots[slot].isNothing()) {
            return NOTHING;
        }
        if (i < 0 || i >= slots[slot].length) {
            return BEYOND;
        }
        slots[slot].set(i, v);
        return 0;
    }

    /** Promise 65. */
    public int paste(int slot, int i, int to, int k, int n) {
        if (!isSlot(slot) || !isSlot(to)) {
            return NO_SUCH;
        }
        Row source = slots[slot];
        Row target = slots[to];
        if (source.isNothing() || target.isNothing()) {
            return NOTHING;
        }
        if (source.width != target.width) {
            return OTHER_WIDTH;
        }
        if (!source.reaches(i, n) || !target.reaches(k, n)) {
            return BEYOND;
        }
        System.arraycopy(source.numbers, i, target.numbers, k, n);
        return 0;
    }

    /** What a call about a SPEECH answers instead; 0 if the SLOT has one. */
    private int refusesSpeech(int slot) {
        if (!isSlot(slot) || now.isNone()) {
            return NO_SUCH;
        }
        if (slots[slot].isNothing()) {
            return NOTHING;
        }
        return speeches.isSpeech(slots[slot]) ? 0 : NO_SUCH;
    }

    private int filledSlots() {
        int filled = 0;
        for (int slot = 0; slot < SLOTS; slot++) {
            if (!slots[slot].isNothing()) {
                filled++;
            }
        }
        return filled;
    }

    private static boolean isSlot(int slot) {
        return slot >= 0 && slot < SLOTS;
    }

    private static boolean isLaw(int law) {
        return law >= 0 && law < LAWS;
    }

    private static boolean isParty(int party) {
        return party >= 0 && party < PARTIES;
    }

    private static boolean isSeed(int seed) {
        return seed >= 0 && seed <= MOST_SEED;
    }

    private static boolean isSet(int set, int size) {
        return set >= 0 && set < 1 << size;
    }

    private static boolean holds(int set, int member) {
        return (set >> member & 1) == 1;
    }

    /** The bytes that were fed and not yet made a CHAMBER. */
    private static final class Tape {
        private static final int FEED = 20;

        private final byte[] bytes = new byte[MOST_BYTES];
        private int length;

        boolean hasRoom() {
            return length + FEED <= MOST_BYTES;
        }

        void add(int number) {
            for (int shift = 24; shift >= 0 && length < MOST_BYTES; shift -= 8) {
                bytes[length] = (byte) (number >> shift);
                length++;
            }
        }

        int at(int place) {
            return place >= 0 && place < length ? bytes[place] & 255 : 0;
        }
    }

    /** Reads the TAPE into a draft of a CHAMBER, up to the first FAULT. */
    private static final class Reader {
        private static final int THE_END = 0;
        private static final int NAME = 1;
        private static final int NUMBER = 2;
        private static final int CLOSE = 3;
        private static final int STRANGE = 4;

        private static final int MISPLACED = 1;
        private static final int OUT_OF_BOUNDS = 2;
        private static final int TOO_MANY = 3;

        /** Above every bound of the document: numbers grow no further, so that they never wrap around. */
        private static final int HUGE = 1000;

        private final Tape tape;
        private final Chamber draft;
        private int fault;
        private int place = NONE;
        private int kind;
        private int from;
        private int past;
        private int value;

        Reader(Tape tape, Chamber draft) {
            this.tape = tape;
            this.draft = draft;
        }

        void read() {
            fault = 0;
            place = NONE;
            past = 0;
            draft.clear();
            advance();
            for (int i = 0; i < MOST_BYTES && fault == 0 && kind != THE_END; i++) {
                readLine();
                readClose();
            }
        }

        private void readLine() {
            if (draft.lines == 0) {
                readChamber();
            } else if (isName("district")) {
                readDistrict();
            } else if (isName("word")) {
                readWord();
            } else if (isName("speaker")) {
                readSpeaker();
            } else if (isName("round")) {
                readRound();
            } else {
                blame(MISPLACED);
            }
        }

        private void readClose() {
            if (kind != CLOSE) {
                blame(MISPLACED);
            }
            if (fault == 0) {
                draft.lines++;
                advance();
            }
        }

        private void readChamber() {
            expect("chamber");
            expect("meanings");
            int meanings = readNumber(1, MOST_MEANINGS);
            expect("law");
            int law = readLaw();
            expect("bar");
            int bar = readNumber(0, 100);
            expect("dies");
            int dies = readNumber(1, 9);
            draft.open(meanings, law, bar, dies);
        }

        private int readLaw() {
            int law = NONE;
            if (isName("first")) {
                law = Election.FIRST;
            } else if (isName("runoff")) {
                law = Election.RUNOFF;
            } else if (isName("strike")) {
                law = Election.STRIKE;
            } else if (isName("approve")) {
                law = Election.APPROVE;
            }
            if (law == NONE) {
                blame(MISPLACED);
            }
            if (fault == 0) {
                advance();
            }
            return law;
        }

        private void readDistrict() {
            begin(draft.districts < MOST_DISTRICTS);
            expect("seats");
            int seats = readNumber(1, 9);
            if (fault == 0) {
                draft.addDistrict(seats);
            }
        }

        private void readWord() {
            begin(draft.words < MOST_WORDS);
            expect("letters");
            int letters = readNumber(1, 12);
            expect("in");
            int home = readNumber(0, draft.districts - 1);
            expect("party");
            int party = readNumber(0, PARTIES - 1);
            expect("means");
            int means = readMeanings();
            if (fault == 0) {
                draft.addWord(letters, home, party, means);
            }
        }

        private void readSpeaker() {
            begin(draft.speakers < MOST_SPEAKERS);
            expect("in");
            int home = readNumber(0, draft.districts - 1);
            expect("votes");
            int weight = readNumber(1, 99);
            expect("comes");
            int comes = readNumber(0, 100);
            expect("needs");
            int needs = readMeanings();
            if (fault == 0) {
                draft.addSpeaker(home, weight, comes, needs);
            }
        }

        private void readRound() {
            begin(draft.rounds.known < MOST_ROUNDS);
            int goal = readNumber(0, draft.meanings - 1);
            expect("by");
            int left = readOther(goal);
            expect("and");
            int right = readOther(goal);
            if (fault == 0) {
                draft.rounds.add(goal, left, right);
            }
        }

        /** The word by which a LINE begins, if one more of its kind may stand. */
        private void begin(boolean room) {
            if (!room) {
                blame(TOO_MANY);
            }
            if (fault == 0) {
                advance();
            }
        }

        private int readMeanings() {
            int bits = 1 << readNumber(0, draft.meanings - 1);
            for (int i = 0; i < MOST_BYTES && fault == 0 && kind == NUMBER; i++) {
                bits |= 1 << readNumber(0, draft.meanings - 1);
            }
            return bits;
        }

        private int readOther(int goal) {
            if (kind == NUMBER && value == goal) {
                blame(OUT_OF_BOUNDS);
            }
            return readNumber(0, draft.meanings - 1);
        }

        /** The number that stands here; 0 behind a FAULT, when nothing is kept any more. */
        private int readNumber(int low, int high) {
            if (kind != NUMBER) {
                blame(MISPLACED);
            } else if (value < low || value > high) {
                blame(OUT_OF_BOUNDS);
            }
            if (fault != 0) {
                return 0;
            }
            int number = value;
            advance();
            return number;
        }

        private void expect(String name) {
            if (!isName(name)) {
                blame(MISPLACED);
            }
            if (fault == 0) {
                advance();
            }
        }

        private boolean isName(String name) {
            if (kind != NAME || past - from != name.length()) {
                return false;
            }
            for (int i = 0; i < name.length(); i++) {
                if (tape.at(from + i) != name.charAt(i)) {
                    return false;
                }
            }
            return true;
        }

        /** The first FAULT alone counts: reading goes by places, and no TOKEN is taken behind it. */
        private void blame(int what) {
            if (fault == 0) {
                fault = what;
                place = from;
            }
        }

        private void advance() {
            from = past;
            while (from < tape.length && isBlank(tape.at(from))) {
                from++;
            }
            past = from;
            if (from >= tape.length) {
                kind = THE_END;
            } else if (isLetter(tape.at(from))) {
                kind = NAME;
                while (past < tape.length && isLetter(tape.at(past))) {
                    past++;
                }
            } else if (isDigit(tape.at(from))) {
                kind = NUMBER;
                value = 0;
                while (past < tape.length && isDigit(tape.at(past))) {
                    value = Math.min(HUGE, 10 * value + tape.at(past) - '0');
                    past++;
                }
            } else {
                kind = tape.at(from) == ';' ? CLOSE : STRANGE;
                past++;
            }
        }

        private static boolean isBlank(int sign) {
            return sign == ' ' || sign == '\n';
        }

        private static boolean isLetter(int sign) {
            return sign >= 'a' && sign <= 'z';
        }

        private static boolean isDigit(int sign) {
            return sign >= '0' && sign <= '9';
        }
    }

    /** What a text told, what was changed since, and the TERMS; without LINES there is none. */
    private static final class Chamber {
        private int lines;
        private int meanings;
        private int law;
        private int bar;
        private int dies;
        private int districts;
        private int words;
        private int speakers;
        private final int[] seats = new int[MOST_DISTRICTS];
        private final int[] letters = new int[MOST_WORDS];
        private final int[] home = new int[MOST_WORDS];
        private final int[] party = new int[MOST_WORDS];
        private final int[] means = new int[MOST_WORDS];
        private final int[] place = new int[MOST_SPEAKERS];
        private final int[] weight = new int[MOST_SPEAKERS];
        private final int[] comes = new int[MOST_SPEAKERS];
        private final int[] needs = new int[MOST_SPEAKERS];
        private final Rounds rounds = new Rounds();
        private final Terms terms = new Terms();

        void clear() {
            lines = 0;
            open(0, 0, 0, 0);
            districts = 0;
            words = 0;
            speakers = 0;
            rounds.known = 0;
            terms.clear();
        }

        void open(int meanings, int law, int bar, int dies) {
            this.meanings = meanings;
            this.law = law;
            this.bar = bar;
            this.dies = dies;
        }

        void copyFrom(Chamber other) {
            lines = other.lines;
            open(other.meanings, other.law, other.bar, other.dies);
            districts = other.districts;
            words = other.words;
            speakers = other.speakers;
            System.arraycopy(other.seats, 0, seats, 0, MOST_DISTRICTS);
            System.arraycopy(other.letters, 0, letters, 0, MOST_WORDS);
            System.arraycopy(other.home, 0, home, 0, MOST_WORDS);
            System.arraycopy(other.party, 0, party, 0, MOST_WORDS);
            System.arraycopy(other.means, 0, means, 0, MOST_WORDS);
            System.arraycopy(other.place, 0, place, 0, MOST_SPEAKERS);
            System.arraycopy(other.weight, 0, weight, 0, MOST_SPEAKERS);
            System.arraycopy(other.comes, 0, comes, 0, MOST_SPEAKERS);
            System.arraycopy(other.needs, 0, needs, 0, MOST_SPEAKERS);
            rounds.copyFrom(other.rounds);
            terms.copyFrom(other.terms);
        }

        void addDistrict(int seats) {
            if (districts < MOST_DISTRICTS) {
                this.seats[districts] = seats;
                districts++;
            }
        }

        void addWord(int letters, int home, int party, int means) {
            if (words < MOST_WORDS) {
                this.letters[words] = letters;
                this.home[words] = home;
                this.party[words] = party;
                this.means[words] = means;
                words++;
            }
        }

        void addSpeaker(int place, int weight, int comes, int needs) {
            if (speakers < MOST_SPEAKERS) {
                this.place[speakers] = place;
                this.weight[speakers] = weight;
                this.comes[speakers] = comes;
                this.needs[speakers] = needs;
                speakers++;
            }
        }

        boolean isNone() {
            return lines == 0;
        }

        boolean hasMeaning(int meaning) {
            return meaning >= 0 && meaning < meanings;
        }

        boolean hasDistrict(int district) {
            return district >= 0 && district < districts;
        }

        boolean hasWord(int word) {
            return word >= 0 && word < words;
        }

        boolean hasSpeaker(int speaker) {
            return speaker >= 0 && speaker < speakers;
        }

        int wordsIn(int district) {
            int set = 0;
            for (int word = 0; word < words; word++) {
                if (home[word] == district) {
                    set |= 1 << word;
                }
            }
            return set;
        }

        int standingIn(int district) {
            return wordsIn(district) & ~terms.dead;
        }

        int speakersIn(int district) {
            int set = 0;
            for (int speaker = 0; speaker < speakers; speaker++) {
                if (place[speaker] == district) {
                    set |= 1 << speaker;
                }
            }
            return set;
        }

        int weightOf(int people) {
            int sum = 0;
            for (int speaker = 0; speaker < speakers; speaker++) {
                if (holds(people, speaker)) {
                    sum += weight[speaker];
                }
            }
            return sum;
        }

        /** Nobody is LIKED by none of the needs. */
        int liking(int speaker, int word) {
            if (!hasSpeaker(speaker) || !hasWord(word)) {
                return 0;
            }
            return Integer.bitCount(needs[speaker] & means[word]);
        }

        /** Whether a set of WORDS could SIT: none of them dead, no two of one DISTRICT. */
        boolean canSit(int set) {
            if ((set & terms.dead) != 0) {
                return false;
            }
            int taken = 0;
            for (int word = 0; word < words; word++) {
                if (holds(set, word)) {
                    if (holds(taken, home[word])) {
                        return false;
                    }
                    taken |= 1 << home[word];
                }
            }
            return true;
        }
    }

    /** The ROUNDS: a goal that is said by two others. */
    private static final class Rounds {
        private int known;
        private final int[] goal = new int[MOST_ROUNDS];
        private final int[] left = new int[MOST_ROUNDS];
        private final int[] right = new int[MOST_ROUNDS];

        void add(int goal, int left, int right) {
            if (known < MOST_ROUNDS) {
                this.goal[known] = goal;
                this.left[known] = left;
                this.right[known] = right;
                known++;
            }
        }

        void copyFrom(Rounds other) {
            known = other.known;
            System.arraycopy(other.goal, 0, goal, 0, MOST_ROUNDS);
            System.arraycopy(other.left, 0, left, 0, MOST_ROUNDS);
            System.arraycopy(other.right, 0, right, 0, MOST_ROUNDS);
        }
    }

    /** The TERMS held, what they left, and what each found, so that it can be taken back. */
    private static final class Terms {
        private int held;
        private int sitting;
        private int dead;
        private final int[] idle = new int[MOST_WORDS];
        private final int[] sat = new int[MOST_TERMS];
        private final int[] deadAhead = new int[MOST_TERMS];
        private final int[] idleAhead = new int[MOST_TERMS * MOST_WORDS];

        void clear() {
            held = 0;
            sitting = 0;
            dead = 0;
            Arrays.fill(idle, 0);
        }

        void copyFrom(Terms other) {
            held = other.held;
            sitting = other.sitting;
            dead = other.dead;
            System.arraycopy(other.idle, 0, idle, 0, MOST_WORDS);
            System.arraycopy(other.sat, 0, sat, 0, held);
            System.arraycopy(other.deadAhead, 0, deadAhead, 0, held);
            System.arraycopy(other.idleAhead, 0, idleAhead, 0, held * MOST_WORDS);
        }

        void hold(int elected, int words, int dies) {
            if (held >= MOST_TERMS) {
                return;
            }
            deadAhead[held] = dead;
            System.arraycopy(idle, 0, idleAhead, held * MOST_WORDS, MOST_WORDS);
            sat[held] = elected;
            held++;
            sitting = elected;
            for (int word = 0; word < words; word++) {
                idle[word] = holds(elected | dead, word) ? 0 : idle[word] + 1;
            }
            for (int word = 0; word < words; word++) {
                if (idle[word] >= dies) {
                    dead |= 1 << word;
                }
            }
        }

        void takeBack() {
            if (held == 0) {
                return;
            }
            held--;
            sitting = held == 0 ? 0 : sat[held - 1];
            dead = deadAhead[held];
            System.arraycopy(idleAhead, held * MOST_WORDS, idle, 0, MOST_WORDS);
        }

        /** Till a WORD dies every election goes alike, so that one will do for all TERMS ahead of it. */
        int firstDeath(int elected, int words, int dies) {
            int first = NONE;
            for (int word = 0; word < words; word++) {
                if (!holds(elected | dead, word)) {
                    int in = Math.max(1, dies - idle[word]);
                    first = first == NONE ? in : Math.min(first, in);
                }
            }
            return first;
        }
    }

    /** An election in one DISTRICT, as it is or as it would be. */
    private static final class Election {
        static final int FIRST = 0;
        static final int RUNOFF = 1;
        static final int STRIKE = 2;
        static final int APPROVE = 3;

        /** One letter more weighs above all numbers of WORDS, LIKED once more above all letters. */
        private static final int LETTER = 16;
        private static final int LIKED_ONCE = 16 * LETTER;
        private static final int AHEAD_OF_ALL = 16 * LIKED_ONCE;

        private final Chamber chamber;
        private int standing;
        private int voters;
        private int roll;
        /** How a SPEAKER puts a WORD: 0 not at all, else the more the further ahead. */
        private final int[] zeal = new int[MOST_SPEAKERS * MOST_WORDS];
        private final int[] tally = new int[MOST_WORDS];
        private int given;
        private final int[] fallen = new int[MOST_WORDS];
        private int strikes;
        private int winner;
        private int won;
        private int trick;
        private int profit;

        Election(Chamber chamber) {
            this.chamber = chamber;
        }

        void open(int district) {
            standing = chamber.standingIn(district);
            for (int speaker = 0; speaker < chamber.speakers; speaker++) {
                fillZeal(speaker);
            }
            enrol(chamber.speakersIn(district));
        }

        /** The SPEAKERS of the DISTRICT, who all come. */
        void enrol(int people) {
            voters = people;
            roll = chamber.weightOf(people);
        }

        private void fillZeal(int speaker) {
            for (int word = 0; word < chamber.words; word++) {
                if (holds(standing, word)) {
                    int liked = chamber.liking(speaker, word);
                    int among = LETTER * chamber.letters[word] + MOST_WORDS - word;
                    zeal[speaker * MOST_WORDS + word] = liked == 0 ? 0 : LIKED_ONCE * liked + among;
                }
            }
        }

        private int zealOf(int speaker, int word) {
            return zeal[speaker * MOST_WORDS + word];
        }

        void hold(int law) {
            strikes = 0;
            switch (law) {
                case RUNOFF:
                    runOff();
                    break;
                case STRIKE:
                    strikeOut();
                    break;
                case APPROVE:
                    tallyLiked();
                    winner = leader(standing);
                    break;
                default:
                    tallyFirst(standing);
                    winner = leader(standing);
                    break;
            }
            won = winner == NONE ? 0 : tally[winner];
            if (won == 0) {
                winner = NONE;
            }
        }

        private void runOff() {
            tallyFirst(standing);
            int one = leader(standing);
            int both = one == NONE ? 0 : 1 << one;
            int other = leader(standing & ~both);
            both |= other == NONE ? 0 : 1 << other;
            tallyFirst(both);
            winner = leader(both);
        }

        private void strikeOut() {
            int left = standing;
            tallyFirst(left);
            winner = leader(left);
            for (int i = 0; i < MOST_WORDS && Integer.bitCount(left) > 1 && 2 * tally[winner] <= given; i++) {
                int last = trailer(left);
                fallen[strikes] = last;
                strikes++;
                left &= ~(1 << last);
                tallyFirst(left);
                winner = leader(left);
            }
        }

        /** Each voter gives all to the first of its ORDER that is among these. */
        void tallyFirst(int among) {
            Arrays.fill(tally, 0);
            given = 0;
            for (int speaker = 0; speaker < chamber.speakers; speaker++) {
                int choice = holds(voters, speaker) ? favourite(speaker, among) : NONE;
                if (choice != NONE) {
                    tally[choice] += chamber.weight[speaker];
                    given += chamber.weight[speaker];
                }
            }
        }

        private void tallyLiked() {
            Arrays.fill(tally, 0);
            for (int speaker = 0; speaker < chamber.speakers; speaker++) {
                for (int word = 0; word < chamber.words; word++) {
                    if (holds(voters, speaker) && holds(standing, word) && zealOf(speaker, word) > 0) {
                        tally[word] += chamber.weight[speaker];
                    }
                }
            }
        }

        private int favourite(int speaker, int among) {
            int favourite = NONE;
            int most = 0;
            for (int word = 0; word < chamber.words; word++) {
                if (holds(among, word) && zealOf(speaker, word) > most) {
                    favourite = word;
                    most = zealOf(speaker, word);
                }
            }
            return favourite;
        }

        private int leader(int among) {
            int leader = NONE;
            for (int word = 0; word < chamber.words; word++) {
                if (holds(among, word) && (leader == NONE || leads(word, leader))) {
                    leader = word;
                }
            }
            return leader;
        }

        private int trailer(int among) {
            int trailer = NONE;
            for (int word = 0; word < chamber.words; word++) {
                if (holds(among, word) && (trailer == NONE || leads(trailer, word))) {
                    trailer = word;
                }
            }
            return trailer;
        }

        private boolean leads(int word, int other) {
            if (tally[word] != tally[other]) {
                return tally[word] > tally[other];
            }
            if (chamber.letters[word] != chamber.letters[other]) {
                return chamber.letters[word] > chamber.letters[other];
            }
            return word < other;
        }

        /** Who SITS by the election just held. */
        int taker() {
            return winner != NONE && won * 100 >= chamber.bar * roll ? winner : NONE;
        }

        int takerIn(int district, int law) {
            open(district);
            hold(law);
            return taker();
        }

        int takers() {
            int set = 0;
            for (int district = 0; district < chamber.districts; district++) {
                int taker = takerIn(district, chamber.law);
                set |= taker == NONE ? 0 : 1 << taker;
            }
            return set;
        }

        int takerWithout(int word) {
            open(chamber.home[word]);
            standing &= ~(1 << word);
            hold(chamber.law);
            return taker();
        }

        int takerDrawn(int seed, int district) {
            open(district);
            voters &= comers(seed);
            hold(chamber.law);
            return taker();
        }

        private int comers(int seed) {
            int set = 0;
            long x = seed;
            for (int speaker = 0; speaker < chamber.speakers; speaker++) {
                x = (1103515245L * x + 12345L) % 2147483648L;
                if (x / 65536L % 100L < chamber.comes[speaker]) {
                    set |= 1 << speaker;
                }
            }
            return set;
        }

        int spoiling() {
            int set = 0;
            for (int word = 0; word < chamber.words; word++) {
                if (!holds(chamber.terms.dead, word)) {
                    int usual = takerIn(chamber.home[word], chamber.law);
                    int without = takerWithout(word);
                    if (usual != word && without != usual && without != NONE) {
                        set |= 1 << word;
                    }
                }
            }
            return set;
        }

        int inOrder(int speaker, int i) {
            int left = standing;
            int next = i < 0 ? NONE : favourite(speaker, left);
            for (int place = 0; place < MOST_WORDS && place < i && next != NONE; place++) {
                left &= ~(1 << next);
                next = favourite(speaker, left);
            }
            return next;
        }

        int fallenAt(int i) {
            return i >= 0 && i < strikes ? fallen[i] : NONE;
        }

        /** Who does not LIKE a WORD has no zeal for it, so that to have one alone is to have it ahead. */
        int ahead(int word, int other) {
            int sum = 0;
            for (int speaker = 0; speaker < chamber.speakers; speaker++) {
                if (holds(voters, speaker) && zealOf(speaker, word) > zealOf(speaker, other)) {
                    sum += chamber.weight[speaker];
                }
            }
            return sum;
        }

        int beatsAll() {
            for (int word = 0; word < chamber.words; word++) {
                if (holds(standing, word) && beatsEach(word)) {
                    return word;
                }
            }
            return NONE;
        }

        private boolean beatsEach(int word) {
            for (int other = 0; other < chamber.words; other++) {
                if (other != word && holds(standing, other) && ahead(word, other) <= ahead(other, word)) {
                    return false;
                }
            }
            return true;
        }

        /** Leaves in trick the WORD by which a SPEAKER GAINS most, in profit by how much. */
        void seekFeint(int speaker) {
            trick = NONE;
            profit = 0;
            int district = chamber.place[speaker];
            int usual = chamber.liking(speaker, takerIn(district, chamber.law));
            int standing = chamber.standingIn(district);
            for (int word = 0; word < chamber.words; word++) {
                if (holds(standing, word)) {
                    int more = chamber.liking(speaker, takerByFeint(speaker, word)) - usual;
                    if (more > profit) {
                        trick = word;
                        profit = more;
                    }
                }
            }
        }

        private int takerByFeint(int speaker, int word) {
            open(chamber.place[speaker]);
            zeal[speaker * MOST_WORDS + word] = AHEAD_OF_ALL;
            hold(chamber.law);
            return taker();
        }
    }

    /** What can be said by a set of WORDS that sit, and how dear that is. */
    private static final class Tongue {
        /** Longer than all that can be said, so that what needs a DUMB MEANING is never the shorter one. */
        private static final int DUMB = 1000000;
        private static final int DUMB_COST = 40;

        private final Chamber chamber;
        private final int[] plain = new int[MOST_MEANINGS];
        private final int[] brief = new int[MOST_MEANINGS];

        Tongue(Chamber chamber) {
            this.chamber = chamber;
        }

        /** Leaves SAID of each MEANING in plain, LEAST in brief, by a set of WORDS. */
        void learn(int set) {
            Arrays.fill(plain, DUMB);
            for (int word = 0; word < chamber.words; word++) {
                if (holds(set, word)) {
                    learnWord(word);
                }
            }
            System.arraycopy(plain, 0, brief, 0, MOST_MEANINGS);
            boolean shorter = true;
            // A shortest way names no MEANING inside itself again, so that it is at most as deep as there are some.
            for (int depth = 0; depth < MOST_MEANINGS && shorter; depth++) {
                shorter = shorten();
            }
        }

        private void learnWord(int word) {
            for (int meaning = 0; meaning < chamber.meanings; meaning++) {
                if (holds(chamber.means[word], meaning)) {
                    plain[meaning] = Math.min(plain[meaning], chamber.letters[word]);
                }
            }
        }

        private boolean shorten() {
            boolean shorter = false;
            for (int i = 0; i < chamber.rounds.known; i++) {
                int goal = chamber.rounds.goal[i];
                if (lengthBy(i) < brief[goal]) {
                    brief[goal] = lengthBy(i);
                    shorter = true;
                }
            }
            return shorter;
        }

        private int lengthBy(int i) {
            return brief[chamber.rounds.left[i]] + brief[chamber.rounds.right[i]] + 1;
        }

        int told(int length) {
            return length < DUMB ? length : NONE;
        }

        boolean goesRound(int meaning) {
            return brief[meaning] < plain[meaning];
        }

        int detour(int meaning) {
            for (int i = 0; i < chamber.rounds.known && goesRound(meaning); i++) {
                if (chamber.rounds.goal[i] == meaning && lengthBy(i) == brief[meaning]) {
                    return i;
                }
            }
            return NONE;
        }

        int unsayable() {
            int set = 0;
            for (int meaning = 0; meaning < chamber.meanings; meaning++) {
                if (brief[meaning] >= DUMB) {
                    set |= 1 << meaning;
                }
            }
            return set;
        }

        int price(int speaker) {
            int sum = 0;
            for (int meaning = 0; meaning < chamber.meanings; meaning++) {
                if (holds(chamber.needs[speaker], meaning)) {
                    sum += brief[meaning] < DUMB ? brief[meaning] : DUMB_COST;
                }
            }
            return chamber.weight[speaker] * sum;
        }

        int priceOfAll(int set) {
            learn(set);
            int sum = 0;
            for (int speaker = 0; speaker < chamber.speakers; speaker++) {
                sum += price(speaker);
            }
            return sum;
        }

        int cheapestIn(int district) {
            int elsewhere = chamber.terms.sitting & ~chamber.wordsIn(district);
            int standing = chamber.standingIn(district);
            int cheapest = NONE;
            int lowest = 0;
            for (int word = 0; word < chamber.words; word++) {
                if (holds(standing, word)) {
                    int price = priceOfAll(elsewhere | 1 << word);
                    if (cheapest == NONE || price < lowest) {
                        cheapest = word;
                        lowest = price;
                    }
                }
            }
            return cheapest;
        }

        /** The least set of the fewest WORDS by which all these MEANINGS can be said; NONE. */
        int fewestFor(int meanings) {
            int alive = (1 << chamber.words) - 1 & ~chamber.terms.dead;
            if (!says(alive, meanings)) {
                return NONE;
            }
            int fewest = alive;
            for (int set = 0; set <= alive; set++) {
                boolean fewer = Integer.bitCount(set) < Integer.bitCount(fewest);
                if (fewer && (set & ~alive) == 0 && says(set, meanings)) {
                    fewest = set;
                }
            }
            return fewest;
        }

        private boolean says(int set, int meanings) {
            learn(set);
            return (unsayable() & meanings) == 0;
        }

        int cheapestHouse() {
            int cheapest = 0;
            int lowest = priceOfAll(0);
            for (int set = 1; set < 1 << chamber.words; set++) {
                if (chamber.canSit(set)) {
                    int price = priceOfAll(set);
                    if (price < lowest) {
                        cheapest = set;
                        lowest = price;
                    }
                }
            }
            return cheapest;
        }
    }

    /** The power of PARTIES, and seats given by LISTS. */
    private static final class Parties {
        static final int ORDERS = 24;

        /** In how many orders of all PARTIES just so many (0 .. 3) others come ahead, for each choice of these. */
        private static final int[] ORDERS_BEHIND = {6, 2, 2, 6};

        private final Chamber chamber;
        private final int[] firstVotes = new int[PARTIES];
        private final int[] allotted = new int[PARTIES];

        Parties(Chamber chamber) {
            this.chamber = chamber;
        }

        int seatsOf(int set) {
            int sum = 0;
            for (int word = 0; word < chamber.words; word++) {
                if (holds(chamber.terms.sitting, word) && holds(set, chamber.party[word])) {
                    sum += chamber.seats[chamber.home[word]];
                }
            }
            return sum;
        }

        boolean rule(int set) {
            int all = 0;
            for (int district = 0; district < chamber.districts; district++) {
                all += chamber.seats[district];
            }
            return 2 * seatsOf(set) > all;
        }

        /** In how many orders a PARTY makes the MAJORITY. */
        int turns(int party) {
            int turns = 0;
            for (int ahead = 0; ahead < 1 << PARTIES; ahead++) {
                if (!holds(ahead, party) && !rule(ahead) && rule(ahead | 1 << party)) {
                    turns += ORDERS_BEHIND[Integer.bitCount(ahead)];
                }
            }
            return turns;
        }

        /** The greatest one of so many turns and of all orders; always 1 and above. */
        static int commonDivisor(int turns) {
            for (int divisor = ORDERS; divisor > 1; divisor--) {
                if (turns % divisor == 0 && ORDERS % divisor == 0) {
                    return divisor;
                }
            }
            return 1;
        }

        int smallestRule() {
            int smallest = NONE;
            for (int set = 0; set < 1 << PARTIES; set++) {
                boolean fewer = smallest == NONE || Integer.bitCount(set) < Integer.bitCount(smallest);
                if (fewer && rule(set)) {
                    smallest = set;
                }
            }
            return smallest;
        }

        int needed(int set) {
            int needed = 0;
            for (int party = 0; party < PARTIES; party++) {
                if (holds(set, party) && rule(set) && !rule(set & ~(1 << party))) {
                    needed |= 1 << party;
                }
            }
            return needed;
        }

        void gather(Election election) {
            Arrays.fill(firstVotes, 0);
            for (int district = 0; district < chamber.districts; district++) {
                election.open(district);
                election.tallyFirst(election.standing);
                for (int word = 0; word < chamber.words; word++) {
                    firstVotes[chamber.party[word]] += election.tally[word];
                }
            }
        }

        void allot(int n) {
            Arrays.fill(allotted, 0);
            for (int i = 0; i < n; i++) {
                int next = 0;
                for (int party = 1; party < PARTIES; party++) {
                    if (firstVotes[party] * (allotted[next] + 1) > firstVotes[next] * (allotted[party] + 1)) {
                        next = party;
                    }
                }
                if (firstVotes[next] > 0) {
                    allotted[next]++;
                }
            }
        }
    }

    /** DISTRICTS drawn for a PARTY: SPEAKERS put anew, WORDS as they stand. */
    private static final class Districting {
        private static final int MOST_PUT = 6;

        private final Chamber chamber;
        private final Election election;
        /** Whether a DISTRICT is the PARTY's, by the set of SPEAKERS put there. */
        private final boolean[] theirs = new boolean[MOST_DISTRICTS << MOST_PUT];
        private final int[] people = new int[MOST_DISTRICTS];
        private int most;
        private int firstRow;

        Districting(Chamber chamber, Election election) {
            this.chamber = chamber;
            this.election = election;
        }

        boolean canDraw() {
            return chamber.districts > 0 && chamber.speakers >= chamber.districts && chamber.speakers <= MOST_PUT;
        }

        /** Leaves in most how many DISTRICTS a PARTY can have, in firstRow the first row by which it has them. */
        void draw(int party) {
            most = NONE;
            firstRow = 0;
            if (!canDraw()) {
                return;
            }
            for (int district = 0; district < chamber.districts; district++) {
                tryPeople(party, district);
            }
            int rows = 1;
            for (int speaker = 0; speaker < chamber.speakers; speaker++) {
                rows *= chamber.districts;
            }
            for (int row = 0; row < rows; row++) {
                int theirs = countTheirs(row);
                if (theirs > most) {
                    most = theirs;
                    firstRow = row;
                }
            }
        }

        private void tryPeople(int party, int district) {
            election.open(district);
            for (int set = 1; set < 1 << chamber.speakers; set++) {
                election.enrol(set);
                election.hold(chamber.law);
                int taker = election.taker();
                theirs[(district << MOST_PUT) + set] = taker != NONE && chamber.party[taker] == party;
            }
        }

        /** A row is a number whose digits are DISTRICTS, SPEAKER 0 first, so that rows come as numbers do. */
        private int countTheirs(int row) {
            Arrays.fill(people, 0);
            int rest = row;
            for (int speaker = chamber.speakers - 1; speaker >= 0; speaker--) {
                people[rest % chamber.districts] |= 1 << speaker;
                rest /= chamber.districts;
            }
            int count = 0;
            for (int district = 0; district < chamber.districts; district++) {
                if (people[district] == 0) {
                    return NONE;
                }
                if (theirs[(district << MOST_PUT) + people[district]]) {
                    count++;
                }
            }
            return count;
        }

        int placeOf(int speaker) {
            if (!canDraw()) {
                return NONE;
            }
            int rest = firstRow;
            for (int behind = chamber.speakers - 1; behind > speaker; behind--) {
                rest /= chamber.districts;
            }
            return rest % chamber.districts;
        }
    }

    /** SPEECHES, and who can have sat by them. */
    private static final class Speeches {
        private static final int SAID_ROUND = 9;

        private final Chamber chamber;
        private final Tongue tongue;
        private int ways;
        private int always;
        private int ever;

        Speeches(Chamber chamber, Tongue tongue) {
            this.chamber = chamber;
            this.tongue = tongue;
        }

        boolean isSpeech(Row row) {
            if (row.length % 2 != 0) {
                return false;
            }
            for (int i = 0; i < row.length; i += 2) {
                long meaning = row.numbers[i];
                long word = row.numbers[i + 1];
                boolean isWord = word >= 0 && word < chamber.words || word == SAID_ROUND;
                if (meaning < 0 || meaning >= chamber.meanings || !isWord) {
                    return false;
                }
            }
            return true;
        }

        /** The first that cannot have been by a set of WORDS that sit; NONE. */
        int firstUnsaid(Row row, int set) {
            tongue.learn(set);
            for (int i = 0; i + 1 < row.length; i += 2) {
                int meaning = (int) row.numbers[i];
                int word = (int) row.numbers[i + 1];
                boolean can = word == SAID_ROUND
                    ? tongue.goesRound(meaning)
                    : holds(set, word) && holds(chamber.means[word], meaning);
                if (!can) {
                    return i / 2;
                }
            }
            return NONE;
        }

        /** Leaves in how many ways WORDS can have sat, and which sat always, which ever. */
        void survey(Row row) {
            ways = 0;
            always = (1 << chamber.words) - 1;
            ever = 0;
            for (int set = 0; set < 1 << chamber.words; set++) {
                if (chamber.canSit(set) && firstUnsaid(row, set) == NONE) {
                    ways++;
                    always &= set;
                    ever |= set;
                }
            }
            if (ways == 0) {
                always = 0;
            }
        }
    }

    /** What a SLOT has. */
    private static final class Row {
        private final long[] numbers = new long[MOST_NUMBERS];
        private int width = NONE;
        private int length;

        boolean isNothing() {
            return width == NONE;
        }

        void lay(int width, int length) {
            this.width = width;
            this.length = length;
            Arrays.fill(numbers, 0L);
        }

        void set(int i, long v) {
            numbers[i] = cut(v);
        }

        private long cut(long v) {
            switch (width) {
                case 0:
                    return (byte) v;
                case 1:
                    return (short) v;
                case 2:
                    return (int) v;
                default:
                    return v;
            }
        }

        /** Whether so many numbers from one on are all in the row; in long, for the sum may be beyond int. */
        boolean reaches(int from, int n) {
            return from >= 0 && n >= 0 && (long) from + n <= length;
        }
    }
}
