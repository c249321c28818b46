import java.util.Arrays;

/**
 * An archive of stories by those who love them. What each call does is told, as numbered promises,
 * in DOC.md; the words in capitals below are the document's. Sets are told as bits, that of 0 lowest.
 */
public final class Tagwranglery {
    public static final int NONE = -1;
    public static final int FREE = 0, MAIN = 1, ALIAS = 2;

    private static final int FACES = 32;
    private static final int PEOPLE = 12;
    private static final int MOST_DAYS_TO_PASS = 100;
    private static final int LAST_DAY = 2000;
    private static final int MOST_WORKS = 20;
    private static final int MOST_OWNERS = 3;
    private static final int MOST_CHAPTERS = 8;
    private static final int GREATEST_RATING = 3;
    private static final int MOST_COLLECTIONS = 6;
    private static final int MOST_TAGS = 30;
    private static final int MOST_CHARACTERS = 60;
    private static final int MOST_TO_TYPE = 8;
    private static final int MOST_SIGNS = 8;
    private static final int MOST_COMMENTS = 60;

    /** Stands for the DAY of a subscription that there is not: no OUT DAY comes up to it. */
    private static final int NEVER = LAST_DAY + 1;

    private int day;
    /** By FACE, the set of all that are the SAME as it. */
    private final int[] sameFaces = new int[FACES];
    private final Person[] people = new Person[PEOPLE];
    private final Work[] works = new Work[MOST_WORKS];
    private int workCount;
    private final Collection[] collections = new Collection[MOST_COLLECTIONS];
    private int collectionCount;
    private final Tags tags = new Tags();
    private final Tape tape = new Tape();
    private final Sieve sieve = new Sieve();
    private final Gifts gifts = new Gifts();
    private final Comment[] comments = new Comment[MOST_COMMENTS];
    private int commentCount;

    public Tagwranglery() {
        for (int face = 0; face < FACES; face++) {
            sameFaces[face] = 1 << face;
        }
        for (int person = 0; person < PEOPLE; person++) {
            people[person] = new Person();
        }
    }

    // ---- FACES, days

    public int pass(int days) throws IllegalArgumentException, IllegalStateException {
        if (days < 1 || days > MOST_DAYS_TO_PASS) {
            throw new IllegalArgumentException("days is out of range");
        }
        if (day + days > LAST_DAY) {
            throw new IllegalStateException("the DAY would be above 2000");
        }
        day += days;
        return day;
    }

    public boolean block(int person, int other, boolean is)
            throws IndexOutOfBoundsException, IllegalArgumentException {
        checkPerson(person);
        checkPerson(other);
        if (person == other) {
            throw new IllegalArgumentException("both are the same");
        }
        Person who = people[person];
        boolean was = has(who.blocked, other);
        who.blocked = with(who.blocked, other, is);
        return was;
    }

    public boolean same(int face, int other) throws IndexOutOfBoundsException {
        checkFace(face);
        checkFace(other);
        boolean were = has(sameFaces[face], other);
        int joined = sameFaces[face] | sameFaces[other];
        for (int each = 0; each < FACES; each++) {
            if (has(joined, each)) {
                sameFaces[each] = joined;
            }
        }
        return !were;
    }

    // ---- WORKS

    public int work(int person, int rating)
            throws IndexOutOfBoundsException, IllegalArgumentException, IllegalStateException {
        checkPerson(person);
        if (rating < 0 || rating > GREATEST_RATING) {
            throw new IllegalArgumentException("rating is out of range");
        }
        if (workCount >= MOST_WORKS) {
            throw new IllegalStateException("there are 20 WORKS");
        }
        works[workCount] = new Work(person, rating);
        workCount++;
        return workCount - 1;
    }

    public int join(int work, int person) throws IndexOutOfBoundsException, IllegalStateException {
        Work it = workAt(work);
        checkPerson(person);
        int before = Integer.bitCount(it.owners);
        if (it.isOwnedBy(person) || before >= MOST_OWNERS || before == 0) {
            throw new IllegalStateException("the PERSON cannot become an OWNER");
        }
        it.owners = with(it.owners, person, true);
        return before + 1;
    }

    public int leave(int work, int person) throws IndexOutOfBoundsException, IllegalStateException {
        Work it = workAt(work);
        checkPerson(person);
        if (!it.isOwnedBy(person)) {
            throw new IllegalStateException("the PERSON is no OWNER of it");
        }
        it.owners = with(it.owners, person, false);
        return Integer.bitCount(it.owners);
    }

    public int chapter(int work) throws IndexOutOfBoundsException, IllegalStateException {
        Work it = workAt(work);
        if (it.chapterCount >= MOST_CHAPTERS) {
            throw new IllegalStateException("the WORK has 8 chapters");
        }
        it.chapterDays[it.chapterCount] = day;
        it.chapterCount++;
        return it.chapterCount - 1;
    }

    public int post(int work) throws IndexOutOfBoundsException, IllegalStateException {
        Work it = workAt(work);
        if (it.isPosted() || it.chapterCount == 0) {
            throw new IllegalStateException("the WORK is POSTED, or has no chapter");
        }
        it.postDay = day;
        return it.chapterCount;
    }

    public boolean lock(int work, boolean is) throws IndexOutOfBoundsException {
        Work it = workAt(work);
        boolean was = it.locked;
        it.locked = is;
        return was;
    }

    public int collection(int opens, int names) throws IllegalArgumentException, IllegalStateException {
        if (opens < 0 || opens > LAST_DAY || names < opens || names > LAST_DAY) {
            throw new IllegalArgumentException("opens or names is out of range");
        }
        if (collectionCount >= MOST_COLLECTIONS) {
            throw new IllegalStateException("there are 6 collections");
        }
        collections[collectionCount] = new Collection(opens, names);
        collectionCount++;
        return collectionCount - 1;
    }

    public void collect(int work, int collection) throws IndexOutOfBoundsException, IllegalStateException {
        Work it = workAt(work);
        if (collection < 0 || collection >= collectionCount) {
            throw new IndexOutOfBoundsException("there is no such collection");
        }
        if (it.collection != null) {
            throw new IllegalStateException("the WORK is in a collection");
        }
        it.collection = collections[collection];
    }

    public boolean sees(int face, int work) throws IndexOutOfBoundsException {
        checkFace(face);
        return workAt(work).isSeenBy(face, day);
    }

    public int owners(int face, int work) throws IndexOutOfBoundsException {
        checkFace(face);
        return workAt(work).ownersToldTo(face, day);
    }

    // ---- TAGS

    public int tag() throws IllegalStateException {
        if (tags.count >= MOST_TAGS) {
            throw new IllegalStateException("there are 30 TAGS");
        }
        return tags.add();
    }

    public int make(int tag) throws IndexOutOfBoundsException, IllegalStateException {
        checkTag(tag);
        int was = tags.kindOf(tag);
        if (was == MAIN) {
            throw new IllegalStateException("the TAG is MAIN");
        }
        tags.makeMain(tag);
        letTaggedWorksWait();
        return was;
    }

    public int merge(int tag, int main)
            throws IndexOutOfBoundsException, IllegalArgumentException, IllegalStateException {
        checkTag(tag);
        checkTag(main);
        if (tag == main) {
            throw new IllegalArgumentException("both are the same");
        }
        int was = tags.kindOf(tag);
        if (tags.kindOf(main) != MAIN || tags.isAbove(tag, main) || tags.isAbove(main, tag)) {
            throw new IllegalStateException("the TAG cannot become an ALIAS of the other one");
        }
        tags.makeAlias(tag, main);
        letTaggedWorksWait();
        return was;
    }

    public boolean parent(int tag, int parent, boolean is)
            throws IndexOutOfBoundsException, IllegalArgumentException, IllegalStateException {
        checkTag(tag);
        checkTag(parent);
        if (tag == parent) {
            throw new IllegalArgumentException("both are the same");
        }
        if (tags.kindOf(tag) != MAIN || tags.kindOf(parent) != MAIN || is && tags.isAbove(tag, parent)) {
            throw new IllegalStateException("the other one cannot be told to be a PARENT, or none");
        }
        boolean was = tags.isParent(parent, tag);
        if (was != is) {
            tags.setParent(tag, parent, is);
            letTaggedWorksWait();
        }
        return was;
    }

    public int ofTag(int tag, int what) throws IndexOutOfBoundsException, IllegalArgumentException {
        checkTag(tag);
        switch (what) {
            case 0:
                return tags.kindOf(tag);
            case 1:
                return tags.meaningOf(tag);
            case 2:
                return tags.aboveOf(tag);
            case 3:
                return countWith(tag);
            case 4:
                return countFiledUnder(tag);
            default:
                throw new IllegalArgumentException("what is out of range");
        }
    }

    public boolean put(int work, int tag, boolean is) throws IndexOutOfBoundsException {
        Work it = workAt(work);
        checkTag(tag);
        boolean was = has(it.tags, tag);
        it.tags = with(it.tags, tag, is);
        it.fileUnder(tags.belongUnder(it.tags));
        return was;
    }

    public int wave(int most) throws IllegalArgumentException {
        if (most < 1 || most > MOST_WORKS) {
            throw new IllegalArgumentException("most is out of range");
        }
        int done = 0;
        for (int number = 0; number < workCount && done < most; number++) {
            Work it = works[number];
            if (it.waits) {
                it.fileUnder(tags.belongUnder(it.tags));
                done++;
            }
        }
        return done;
    }

    public int waiting() {
        int set = 0;
        for (int number = 0; number < workCount; number++) {
            set = with(set, number, works[number].waits);
        }
        return set;
    }

    public int under(int work, boolean byNow) throws IndexOutOfBoundsException {
        return placesOf(workAt(work), byNow);
    }

    // ---- searches

    public int type(long characters, int n) throws IllegalArgumentException, IllegalStateException {
        if (n < 1 || n > MOST_TO_TYPE) {
            throw new IllegalArgumentException("n is out of range");
        }
        for (int place = 0; place < n; place++) {
            if (!Tape.holds(characterAt(characters, place))) {
                throw new IllegalArgumentException("a character cannot be on the tape");
            }
        }
        if (tape.length + n > MOST_CHARACTERS) {
            throw new IllegalStateException("the tape would have more than 60 characters");
        }
        for (int place = 0; place < n; place++) {
            tape.add(characterAt(characters, place));
        }
        return tape.length;
    }

    public int wipe() {
        int had = tape.length;
        tape.length = 0;
        return had;
    }

    public int fault() {
        return tape.firstFault();
    }

    public int search(int face, boolean byNow) throws IndexOutOfBoundsException, IllegalArgumentException {
        checkFace(face);
        checkQuery();
        return found(face, byNow);
    }

    public int result(int face, int place) throws IndexOutOfBoundsException, IllegalArgumentException {
        checkFace(face);
        if (place < 0) {
            throw new IndexOutOfBoundsException("place is below 0");
        }
        checkQuery();
        int set = found(face, false);
        for (int number = 0; number < workCount; number++) {
            if (has(set, number) && countAheadOf(number, set) == place) {
                return number;
            }
        }
        return NONE;
    }

    // ---- gifts

    public int sign(int person, int wishes, int offers, int barred)
            throws IndexOutOfBoundsException, IllegalArgumentException, IllegalStateException {
        checkPerson(person);
        if (!isWithin(wishes, tags.count) || !isWithin(offers, tags.count) || !isWithin(barred, PEOPLE)) {
            throw new IllegalArgumentException("a set has what there is not");
        }
        if (gifts.hasSignOf(person) || gifts.count >= MOST_SIGNS) {
            throw new IllegalStateException("the PERSON has a SIGN, or there are 8");
        }
        return gifts.add(new Sign(person, wishes, offers, barred));
    }

    public int match(int sign) throws IndexOutOfBoundsException {
        if (sign < 0 || sign >= gifts.count) {
            throw new IndexOutOfBoundsException("there is no such SIGN");
        }
        return gifts.receiverOf(sign, tags);
    }

    public int matches() {
        return gifts.countMatches(tags);
    }

    // ---- comments, kudos, news

    public boolean screen(int work, boolean is) throws IndexOutOfBoundsException {
        Work it = workAt(work);
        boolean was = it.screens;
        it.screens = is;
        return was;
    }

    public int comment(int work, int face, int beneath)
            throws IndexOutOfBoundsException, IllegalArgumentException, IllegalStateException {
        Work it = workAt(work);
        checkFace(face);
        Comment upper = beneath == NONE ? null : commentAt(beneath);
        if (upper != null && upper.work != work) {
            throw new IllegalArgumentException("the comment is on another WORK");
        }
        if (commentCount >= MOST_COMMENTS || !mayComment(it, face, upper)) {
            throw new IllegalStateException("the FACE cannot comment there, or there are 60 comments");
        }
        boolean screened = it.screens && !it.isOwnedBy(face);
        comments[commentCount] = new Comment(work, face, upper, screened);
        commentCount++;
        return commentCount - 1;
    }

    public boolean change(int comment, int what) throws IndexOutOfBoundsException, IllegalArgumentException {
        Comment it = commentAt(comment);
        boolean changes;
        switch (what) {
            case 0:
                changes = !it.frozen;
                it.frozen = true;
                return changes;
            case 1:
                changes = it.frozen;
                it.frozen = false;
                return changes;
            case 2:
                changes = it.screened;
                it.screened = false;
                return changes;
            case 3:
                changes = !it.removed;
                it.removed = true;
                return changes;
            default:
                throw new IllegalArgumentException("what is out of range");
        }
    }

    public int reads(int work, int face) throws IndexOutOfBoundsException {
        Work it = workAt(work);
        checkFace(face);
        int count = 0;
        for (int number = 0; number < commentCount; number++) {
            Comment each = comments[number];
            if (each.work == work && isReadBy(face, each, it)) {
                count++;
            }
        }
        return count;
    }

    public int kudos(int work, int face) throws IndexOutOfBoundsException, IllegalStateException {
        Work it = workAt(work);
        checkFace(face);
        if (!it.isSeenBy(face, day) || it.isOwnedBy(face) || (it.kudos & sameFaces[face]) != 0) {
            throw new IllegalStateException("the FACE cannot give kudos to the WORK");
        }
        it.kudos = with(it.kudos, face, true);
        return countKudos(it);
    }

    public int liked(int work) throws IndexOutOfBoundsException {
        return countKudos(workAt(work));
    }

    public boolean subscribe(int person, boolean isPerson, int number) throws IndexOutOfBoundsException {
        checkPerson(person);
        if (isPerson) {
            checkPerson(number);
        } else {
            checkWork(number);
        }
        Person who = people[person];
        int[] days = isPerson ? who.personDays : who.workDays;
        boolean had = days[number] != NEVER;
        if (!had) {
            days[number] = day;
        }
        return !had;
    }

    public int news(int person) throws IndexOutOfBoundsException {
        checkPerson(person);
        int set = 0;
        for (int number = 0; number < workCount; number++) {
            set = with(set, number, newChapters(person, number) != 0);
        }
        return set;
    }

    public int digest(int person) throws IndexOutOfBoundsException {
        checkPerson(person);
        Person who = people[person];
        int count = 0;
        for (int number = 0; number < workCount; number++) {
            int chapters = newChapters(person, number);
            who.digested[number] |= chapters;
            count += Integer.bitCount(chapters);
        }
        return count;
    }

    // ---- what there is, and is not

    private static void checkFace(int face) {
        if (face < 0 || face >= FACES) {
            throw new IndexOutOfBoundsException("there is no such FACE");
        }
    }

    private static void checkPerson(int person) {
        if (person < 0 || person >= PEOPLE) {
            throw new IndexOutOfBoundsException("there is no such PERSON");
        }
    }

    private void checkTag(int tag) {
        if (tag < 0 || tag >= tags.count) {
            throw new IndexOutOfBoundsException("there is no such TAG");
        }
    }

    private void checkQuery() {
        if (tape.firstFault() != NONE) {
            throw new IllegalArgumentException("the tape is no query");
        }
    }

    private void checkWork(int number) {
        if (number < 0 || number >= workCount) {
            throw new IndexOutOfBoundsException("there is no such WORK");
        }
    }

    private Work workAt(int number) {
        checkWork(number);
        return works[number];
    }

    private Comment commentAt(int number) {
        if (number < 0 || number >= commentCount) {
            throw new IndexOutOfBoundsException("there is no such comment");
        }
        return comments[number];
    }

    // ---- sets

    private static boolean has(int set, int number) {
        return (set >>> number & 1) != 0;
    }

    private static int with(int set, int number, boolean is) {
        return is ? set | 1 << number : set & ~(1 << number);
    }

    /** Tells whether a set has only numbers below a count, which is below 32. */
    private static boolean isWithin(int set, int count) {
        return set >>> count == 0;
    }

    // ---- WORKS and TAGS

    private void letTaggedWorksWait() {
        for (int number = 0; number < workCount; number++) {
            Work it = works[number];
            it.waits = it.waits || it.tags != 0;
        }
    }

    private int placesOf(Work it, boolean byNow) {
        return byNow ? tags.belongUnder(it.tags) : it.filed;
    }

    private int countWith(int tag) {
        int count = 0;
        for (int number = 0; number < workCount; number++) {
            count += has(works[number].tags, tag) ? 1 : 0;
        }
        return count;
    }

    private int countFiledUnder(int tag) {
        int count = 0;
        for (int number = 0; number < workCount; number++) {
            count += has(works[number].filed, tag) ? 1 : 0;
        }
        return count;
    }

    // ---- searches

    private static char characterAt(long characters, int place) {
        return (char) (characters >>> 8 * place & 255);
    }

    /** The WORKS that a FACE SEES and of which the query is so; the tape is known to be a query. */
    private int found(int face, boolean byNow) {
        Scanner scanner = tape.scanner;
        scanner.start();
        sieve.start();
        for (int place = 0; place < tape.length; place++) {
            char character = tape.characters[place];
            scanner.takes(character);
            sieve.mark(character);
            if (scanner.hasItem(character)) {
                sieve.item(worksOfItem(scanner.letter, scanner.number, face, byNow));
            }
        }
        return sieve.end() & worksSeenBy(face);
    }

    private int worksOfItem(char letter, int figures, int face, boolean byNow) {
        int set = 0;
        for (int number = 0; number < workCount; number++) {
            Work it = works[number];
            boolean is = letter == 't' ? isTagSo(it, figures, byNow)
                    : letter == 'a' ? has(it.ownersToldTo(face, day), figures)
                    : it.rating <= figures;
            set = with(set, number, is);
        }
        return set;
    }

    private boolean isTagSo(Work it, int tag, boolean byNow) {
        if (tag >= tags.count) {
            return false;
        }
        int meaning = tags.meaningOf(tag);
        return meaning == NONE ? has(it.tags, tag) : has(placesOf(it, byNow), meaning);
    }

    private int worksSeenBy(int face) {
        int set = 0;
        for (int number = 0; number < workCount; number++) {
            set = with(set, number, works[number].isSeenBy(face, day));
        }
        return set;
    }

    /** How many WORKS of a set stand ahead of one of them in the order of results. */
    private int countAheadOf(int work, int set) {
        int latest = works[work].latest();
        int count = 0;
        for (int number = 0; number < workCount; number++) {
            int other = works[number].latest();
            boolean ahead = other > latest || other == latest && number < work;
            if (ahead && has(set, number)) {
                count++;
            }
        }
        return count;
    }

    // ---- comments, kudos, news

    private boolean isReadBy(int face, Comment comment, Work it) {
        if (comment.removed || !it.isSeenBy(face, day)) {
            return false;
        }
        return !comment.screened || comment.face == face || it.isOwnedBy(face);
    }

    /** Tells whether a FACE may comment on a WORK, beneath a comment on it, or beneath none (null). */
    private boolean mayComment(Work it, int face, Comment upper) {
        if (!it.isSeenBy(face, day) || isBlockedByAny(it.owners, face)) {
            return false;
        }
        if (upper == null) {
            return true;
        }
        return isReadBy(face, upper, it) && !upper.isFrozenHereOrAbove() && !isBlockedBy(upper.face, face);
    }

    private boolean isBlockedByAny(int persons, int face) {
        for (int person = 0; person < PEOPLE; person++) {
            if (has(persons, person) && isBlockedBy(person, face)) {
                return true;
            }
        }
        return false;
    }

    private boolean isBlockedBy(int writer, int face) {
        return writer >= 0 && writer < PEOPLE && has(people[writer].blocked, face);
    }

    /** Counts those who gave kudos by the lowest of the FACES that are the SAME and gave them. */
    private int countKudos(Work it) {
        int count = 0;
        for (int face = 0; face < FACES; face++) {
            int lower = (1 << face) - 1;
            if (has(it.kudos, face) && (it.kudos & sameFaces[face] & lower) == 0) {
                count++;
            }
        }
        return count;
    }

    /** The set of the chapters of a WORK that are news of a PERSON. */
    private int newChapters(int person, int work) {
        Work it = works[work];
        Person who = people[person];
        if (!it.isPosted() || !it.isSeenBy(person, day) || it.isOwnedBy(person)) {
            return 0;
        }
        int first = Math.min(who.workDays[work], who.firstDayOfAny(it.ownersToldTo(person, day)));
        return it.chaptersOutFrom(first) & ~who.digested[work];
    }

    /** What a PERSON did to PEOPLE and WORKS other than their own. */
    private static final class Person {
        int blocked;
        /** By number, the DAY of the first subscription, or NEVER. */
        final int[] workDays = new int[MOST_WORKS];
        final int[] personDays = new int[PEOPLE];
        /** By WORK, the set of its chapters that were in a digest. */
        final int[] digested = new int[MOST_WORKS];

        Person() {
            Arrays.fill(workDays, NEVER);
            Arrays.fill(personDays, NEVER);
        }

        int firstDayOfAny(int persons) {
            int first = NEVER;
            for (int person = 0; person < PEOPLE; person++) {
                if (has(persons, person)) {
                    first = Math.min(first, personDays[person]);
                }
            }
            return first;
        }
    }

    private static final class Collection {
        final int opens;
        final int names;

        Collection(int opens, int names) {
            this.opens = opens;
            this.names = names;
        }
    }

    private static final class Work {
        final int rating;
        int owners;
        final int[] chapterDays = new int[MOST_CHAPTERS];
        int chapterCount;
        /** NONE of a draft. */
        int postDay = NONE;
        boolean locked;
        /** Null as long as it is in none. */
        Collection collection;
        int tags;
        int filed;
        boolean waits;
        boolean screens;
        /** The set of the FACES that gave them. */
        int kudos;

        Work(int person, int rating) {
            this.owners = 1 << person;
            this.rating = rating;
        }

        boolean isPosted() {
            return postDay != NONE;
        }

        boolean isOwnedBy(int face) {
            return has(owners, face);
        }

        boolean isSeenBy(int face, int day) {
            if (isOwnedBy(face)) {
                return true;
            }
            boolean opened = collection == null || collection.opens <= day;
            return isPosted() && opened && (!locked || face < PEOPLE);
        }

        /** The set of the OWNERS as a FACE is TOLD them: empty, if it is not. */
        int ownersToldTo(int face, int day) {
            boolean named = collection == null || collection.names <= day;
            return isSeenBy(face, day) && (isOwnedBy(face) || named) ? owners : 0;
        }

        int outDay(int chapter) {
            return Math.max(chapterDays[chapter], postDay);
        }

        /**
         * The LATEST, which is the OUT DAY of the last chapter, since days do not go back; of a draft
         * NONE, so that it stands behind all that are POSTED.
         */
        int latest() {
            return isPosted() && chapterCount > 0 ? outDay(chapterCount - 1) : NONE;
        }

        /** The chapters of a POSTED WORK with an OUT DAY not before the one told. */
        int chaptersOutFrom(int first) {
            int set = 0;
            for (int chapter = 0; chapter < chapterCount; chapter++) {
                set = with(set, chapter, outDay(chapter) >= first);
            }
            return set;
        }

        void fileUnder(int places) {
            filed = places;
            waits = false;
        }
    }

    /** The graph of TAGS. Those that are not MAIN have no PARENTS and are none. */
    private static final class Tags {
        int count;
        /** By TAG: NONE makes it FREE, itself MAIN, another one an ALIAS. */
        private final int[] meanings = new int[MOST_TAGS];
        private final int[] parents = new int[MOST_TAGS];
        /** Follows from the PARENTS; kept, since each search and each filing asks for it often. */
        private final int[] above = new int[MOST_TAGS];

        /** Adds a FREE one; the caller has seen that there are not 30. */
        int add() {
            meanings[count] = NONE;
            count++;
            return count - 1;
        }

        int kindOf(int tag) {
            if (meanings[tag] == NONE) {
                return FREE;
            }
            return meanings[tag] == tag ? MAIN : ALIAS;
        }

        int meaningOf(int tag) {
            return meanings[tag];
        }

        int aboveOf(int tag) {
            return above[tag];
        }

        boolean isAbove(int upper, int tag) {
            return has(above[tag], upper);
        }

        boolean isParent(int upper, int tag) {
            return has(parents[tag], upper);
        }

        void makeMain(int tag) {
            meanings[tag] = tag;
        }

        void makeAlias(int tag, int main) {
            for (int each = 0; each < count; each++) {
                if (meanings[each] == tag) {
                    meanings[each] = main;
                }
                if (has(parents[each], tag)) {
                    parents[each] = with(with(parents[each], tag, false), main, true);
                }
            }
            meanings[tag] = main;
            parents[tag] = 0;
            findAbove();
        }

        void setParent(int tag, int parent, boolean is) {
            parents[tag] = with(parents[tag], parent, is);
            findAbove();
        }

        /** Warshall's way: behind round n, all ways up whose steps between are TAGS up to n are known. */
        private void findAbove() {
            System.arraycopy(parents, 0, above, 0, MOST_TAGS);
            for (int between = 0; between < count; between++) {
                for (int tag = 0; tag < count; tag++) {
                    if (has(above[tag], between)) {
                        above[tag] |= above[between];
                    }
                }
            }
        }

        int meaningsOf(int set) {
            int found = 0;
            for (int tag = 0; tag < count; tag++) {
                if (has(set, tag) && meanings[tag] != NONE) {
                    found |= 1 << meanings[tag];
                }
            }
            return found;
        }

        /** The MEANINGS of a set of TAGS, and what is ABOVE them. */
        int belongUnder(int set) {
            int found = 0;
            for (int tag = 0; tag < count; tag++) {
                if (has(set, tag) && meanings[tag] != NONE) {
                    found |= 1 << meanings[tag] | above[meanings[tag]];
                }
            }
            return found;
        }
    }

    private static final class Tape {
        final char[] characters = new char[MOST_CHARACTERS];
        int length;
        final Scanner scanner = new Scanner();

        static boolean holds(char character) {
            return Scanner.isFigure(character) || Scanner.figuresOf(character) > 0
                    || character == '&' || character == '|' || character == '!'
                    || character == '(' || character == ')';
        }

        /** The caller has seen that it holds the character, and has room for it. */
        void add(char character) {
            characters[length] = character;
            length++;
        }

        int firstFault() {
            scanner.start();
            for (int place = 0; place < length; place++) {
                if (!scanner.takes(characters[place])) {
                    return place;
                }
            }
            return scanner.isAtEnd() ? NONE : length;
        }
    }

    /** Takes a query character by character, which needs no recursion and no look ahead. */
    private static final class Scanner {
        private int depth;
        private boolean wantsItem;
        private int figuresWanted;
        /** Of the item with figures that came last. */
        char letter;
        int number;

        void start() {
            depth = 0;
            wantsItem = true;
            figuresWanted = 0;
        }

        /** Tells whether all so far, with this character, can be the beginning of a query. */
        boolean takes(char character) {
            if (figuresWanted > 0) {
                return takesFigure(character);
            }
            return wantsItem ? takesItem(character) : takesLink(character);
        }

        boolean isAtEnd() {
            return depth == 0 && !wantsItem && figuresWanted == 0;
        }

        /** Tells whether the character that it took last ends an item with figures. */
        boolean hasItem(char character) {
            return figuresWanted == 0 && isFigure(character);
        }

        private boolean takesItem(char character) {
            if (character == '!') {
                return true;
            }
            if (character == '(') {
                depth++;
                return true;
            }
            letter = character;
            number = 0;
            figuresWanted = figuresOf(character);
            wantsItem = false;
            return figuresWanted > 0;
        }

        private boolean takesFigure(char character) {
            if (!isFigure(character)) {
                return false;
            }
            number = number * 10 + (character - '0');
            figuresWanted--;
            int least = figuresWanted > 0 ? number * 10 : number;
            return least <= greatestOf(letter);
        }

        private boolean takesLink(char character) {
            if (character == ')') {
                depth--;
                return depth >= 0;
            }
            wantsItem = true;
            return character == '&' || character == '|';
        }

        static boolean isFigure(char character) {
            return character >= '0' && character <= '9';
        }

        /** How many figures follow a letter; 0 for what is no letter of an item. */
        static int figuresOf(char character) {
            if (character == 't' || character == 'a') {
                return 2;
            }
            return character == 'r' ? 1 : 0;
        }

        private static int greatestOf(char letter) {
            if (letter == 't') {
                return MOST_TAGS - 1;
            }
            return letter == 'a' ? PEOPLE - 1 : GREATEST_RATING;
        }
    }

    /** Works a query out for all WORKS at once, one level for each parenthesis that is open. */
    private static final class Sieve {
        private static final int ALL = -1;

        private final int[] parts = new int[MOST_CHARACTERS + 1];
        private final int[] items = new int[MOST_CHARACTERS + 1];
        private final boolean[] nots = new boolean[MOST_CHARACTERS + 1];
        private int level;

        void start() {
            level = 0;
            clear();
        }

        /** Takes a sign; letters and figures leave it as it is, until their item is told. */
        void mark(char character) {
            if (character == '!') {
                nots[level] = !nots[level];
            } else if (character == '(' && level < MOST_CHARACTERS) {
                level++;
                clear();
            } else if (character == ')' && level > 0) {
                int inner = end();
                level--;
                item(inner);
            } else if (character == '|') {
                parts[level] |= items[level];
                items[level] = ALL;
            }
        }

        /** Takes the set of the WORKS of which the item that comes next is so. */
        void item(int set) {
            items[level] &= nots[level] ? ~set : set;
            nots[level] = false;
        }

        int end() {
            return parts[level] | items[level];
        }

        private void clear() {
            parts[level] = 0;
            items[level] = ALL;
            nots[level] = false;
        }
    }

    private static final class Sign {
        final int person;
        final int wishes;
        final int offers;
        final int barred;

        Sign(int person, int wishes, int offers, int barred) {
            this.person = person;
            this.wishes = wishes;
            this.offers = offers;
            this.barred = barred;
        }

        /** Tells whether it SUITS another one as its receiver. */
        boolean suits(Sign receiver, Tags tags) {
            if (has(barred, receiver.person) || has(receiver.barred, person)) {
                return false;
            }
            return (tags.meaningsOf(receiver.wishes) & tags.belongUnder(offers)) != 0;
        }
    }

    private static final class Gifts {
        private final Sign[] signs = new Sign[MOST_SIGNS];
        int count;
        /** By giver, the set of the receivers that it SUITS. */
        private final int[] receivers = new int[MOST_SIGNS];
        /**
         * By a set of receivers that the first SIGNS, as many as it has, have taken: in how many ways
         * the other SIGNS can have the receivers that are left.
         */
        private final int[] ways = new int[1 << MOST_SIGNS];

        boolean hasSignOf(int person) {
            for (int number = 0; number < count; number++) {
                if (signs[number].person == person) {
                    return true;
                }
            }
            return false;
        }

        /** The caller has seen that there are not 8. */
        int add(Sign sign) {
            signs[count] = sign;
            count++;
            return count - 1;
        }

        int countMatches(Tags tags) {
            findWays(tags);
            return ways[0];
        }

        int receiverOf(int sign, Tags tags) {
            findWays(tags);
            int receiver = NONE;
            int taken = 0;
            for (int giver = 0; giver <= sign && ways[taken] > 0; giver++) {
                receiver = lowestReceiver(giver, taken);
                taken = receiver == NONE ? taken : with(taken, receiver, true);
            }
            return receiver;
        }

        /** The lowest one with which the SIGNS behind the giver still have a way. */
        private int lowestReceiver(int giver, int taken) {
            int free = receivers[giver] & ~taken;
            for (int receiver = 0; receiver < count; receiver++) {
                if (has(free, receiver) && ways[with(taken, receiver, true)] > 0) {
                    return receiver;
                }
            }
            return NONE;
        }

        private void findWays(Tags tags) {
            findReceivers(tags);
            int full = (1 << count) - 1;
            ways[full] = 1;
            for (int taken = full - 1; taken >= 0; taken--) {
                int free = receivers[Integer.bitCount(taken)] & ~taken;
                int sum = 0;
                for (int receiver = 0; receiver < count; receiver++) {
                    sum += has(free, receiver) ? ways[with(taken, receiver, true)] : 0;
                }
                ways[taken] = sum;
            }
        }

        private void findReceivers(Tags tags) {
            for (int giver = 0; giver < count; giver++) {
                int set = 0;
                for (int receiver = 0; receiver < count; receiver++) {
                    boolean is = giver != receiver && signs[giver].suits(signs[receiver], tags);
                    set = with(set, receiver, is);
                }
                receivers[giver] = set;
            }
        }
    }

    private static final class Comment {
        final int work;
        final int face;
        /** The one that it is beneath at once; null, if it stands on its own. */
        final Comment upper;
        boolean frozen;
        boolean removed;
        boolean screened;

        Comment(int work, int face, Comment upper, boolean screened) {
            this.work = work;
            this.face = face;
            this.upper = upper;
            this.screened = screened;
        }

        /** Tells whether it, or one that it is beneath, is FROZEN. */
        boolean isFrozenHereOrAbove() {
            for (Comment each = this; each != null; each = each.upper) {
                if (each.frozen) {
                    return true;
                }
            }
            return false;
        }
    }
}
