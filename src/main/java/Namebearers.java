import java.util.ArrayList;
import java.util.NoSuchElementException;

/** A register of what people are called and how it changes. The document ../shared/DOC.md says what each call does. */
public final class Namebearers {
    private static final int LANDS = 4;
    private static final int CLERKS = 4;
    private static final int BOOKS = 4;
    private static final int GIVEN_NAMES = 16;
    private static final int HOUSES = 8;
    private static final int GENERATION_NAMES = 4;
    private static final int BY_NAMES = 4;
    private static final int DAYS_OF_WEEK = 7;
    private static final int NOBODY = -1;
    private static final int NO_BY_NAME = -1;
    private static final char BLANK = ' ';
    private static final char DASH = '-';

    private static final int MOST_CALLS = 512;
    private static final int MOST_DAYS = 999;
    private static final int MOST_PERSONS = 40;
    private static final int MOST_PETITIONS = 20;
    private static final int MOST_RECORDS = 40;
    private static final int MOST_RULES = 8;
    private static final int LONGEST_NAME = 40;
    private static final int LONGEST_WRITTEN = 24;
    private static final int HIGHEST_LIMIT_OF_PRICES = 99;
    private static final int FIRST_LIMIT_OF_PRICES = 12;
    private static final int DAYS_OF_NOTICE = 30;
    private static final int TELLERS_TO_STICK = 3;
    private static final int FEWEST_BEARERS_TOLD = 3;
    private static final int KEY_SIGNS = 4;
    private static final int PRICE_IN_DOUBT = 50;

    private static final String SYSTEMS = "pmicd";
    private static final String MARRIAGE_RULES = "kmth";
    private static final String FIRST_SYSTEMS = "picm";
    private static final String FIRST_MARRIAGE_RULES = "kmth";
    private static final String GROUNDS = "mus";
    private static final String SEXES = "mf";
    private static final String KINDS_OF_NAMES = "gsbfo";
    private static final String GIVEN_WORDS =
            "anna bjorn carla david erik freya gunnar hanna ivar jon karin lars maria nils olga pal";
    private static final String HOUSE_WORDS = "berg lund holm strand dahl moe vik haug";
    private static final String GENERATION_WORDS = "an be co du";
    private static final String BY_NAME_WORDS = "red tall wise lame";
    private static final String DAY_WORDS = "sun moon tyr odin thor frig bath";
    private static final String DIGITS_OF_LETTERS = "01230120022455012623010202";

    private final Land[] lands;
    private final Clerk[] clerks;
    private final ArrayList<Person> people;
    private final ArrayList<Petition> petitions;
    private final Archive archive;
    private int today;
    private boolean hasRefused;
    private char refusal;
    private int refusalNumber;
    private int refusedGiven;

    public Namebearers() {
        lands = new Land[LANDS];
        for (int i = 0; i < lands.length; i++) {
            lands[i] = new Land(i, FIRST_SYSTEMS.charAt(i), FIRST_MARRIAGE_RULES.charAt(i));
        }
        clerks = new Clerk[CLERKS];
        for (int i = 0; i < clerks.length; i++) {
            clerks[i] = new Clerk();
        }
        people = new ArrayList<Person>();
        petitions = new ArrayList<Petition>();
        archive = new Archive();
    }

    // ---- lands and days

    public int days(int days) throws IllegalArgumentException {
        if (days < 1 || days > MOST_DAYS) {
            throw new IllegalArgumentException("days must be 1 to 999");
        }
        today += days;
        return today;
    }

    public char setSystem(int land, char system) throws IllegalArgumentException {
        Land changed = landAt(land);
        if (!isOneOf(SYSTEMS, system)) {
            throw new IllegalArgumentException("no such system");
        }
        char before = changed.system;
        changed.system = system;
        return before;
    }

    public char setMarriage(int land, char rule) throws IllegalArgumentException {
        Land changed = landAt(land);
        if (!isOneOf(MARRIAGE_RULES, rule)) {
            throw new IllegalArgumentException("no such rule of marriages");
        }
        char before = changed.marriageRule;
        changed.marriageRule = rule;
        return before;
    }

    public boolean ban(int land, int given, boolean isBanned) throws IllegalArgumentException {
        Land changed = landAt(land);
        if (!isGivenName(given)) {
            throw new IllegalArgumentException("no such given name");
        }
        boolean before = changed.hasBanned(given);
        changed.setBanned(given, isBanned);
        return before;
    }

    public boolean forbid(int land, boolean isForbidden) throws IllegalArgumentException {
        Land changed = landAt(land);
        boolean before = changed.forbidsNamesTwice;
        changed.forbidsNamesTwice = isForbidden;
        return before;
    }

    // ---- life

    public int birth(int mother, int father, char sex, int given, int land)
            throws IndexOutOfBoundsException, IllegalArgumentException, IllegalStateException,
            UnsupportedOperationException {
        if (!isPersonOrNobody(mother) || !isPersonOrNobody(father)) {
            throw new IndexOutOfBoundsException("no such mother or father");
        }
        Land place = landAt(land);
        boolean isOneParentTwice = mother != NOBODY && mother == father;
        if (!isOneOf(SEXES, sex) || !isGivenName(given) || isOneParentTwice) {
            throw new IllegalArgumentException("no such sex or name, or both parents are the same");
        }
        if (people.size() >= MOST_PERSONS) {
            throw new IllegalStateException("there are 40 persons");
        }
        if (isRefused(mother, father, given, place)) {
            throw new UnsupportedOperationException("the birth is refused");
        }
        Origin origin = originOf(mother, father, given, place.system);
        StringBuilder second = new StringBuilder();
        appendFormedSecond(second, origin, sex);
        people.add(new Person(sex, origin, place, givenWord(given), second.toString()));
        return people.size() - 1;
    }

    public char cause(int depth) throws NoSuchElementException {
        checkCause(depth);
        return depth == 0 ? refusal : 'n';
    }

    public int causeNumber(int depth) throws NoSuchElementException {
        checkCause(depth);
        return depth == 0 ? refusalNumber : refusedGiven;
    }

    public boolean die(int person) throws IndexOutOfBoundsException, UnsupportedOperationException {
        Person dying = personAt(person);
        checkAlive(dying);
        dying.isLiving = false;
        boolean wasMarried = dying.isMarried();
        if (isPerson(dying.mate)) {
            people.get(dying.mate).mate = NOBODY;
        }
        dying.mate = NOBODY;
        return wasMarried;
    }

    public int marry(int one, int other) throws IndexOutOfBoundsException, UnsupportedOperationException {
        Person first = personAt(one);
        Person second = personAt(other);
        if (one == other || !first.canMarry() || !second.canMarry()) {
            throw new UnsupportedOperationException("both are the same, or one is dead or married");
        }
        char rule = first.land.marriageRule;
        String firstThen = secondInMarriage(rule, first, second, false);
        String secondThen = secondInMarriage(rule, second, first, true);
        first.mate = other;
        second.mate = one;
        return first.rename(first.given, firstThen) + second.rename(second.given, secondThen);
    }

    public int spouse(int person) throws IndexOutOfBoundsException, NoSuchElementException {
        Person asked = personAt(person);
        if (!asked.isMarried()) {
            throw new NoSuchElementException("married to nobody");
        }
        return asked.mate;
    }

    public int deed(int person, int byName)
            throws IndexOutOfBoundsException, IllegalArgumentException, UnsupportedOperationException,
            IllegalStateException {
        Person doer = personAt(person);
        if (byName < 0 || byName >= BY_NAMES) {
            throw new IllegalArgumentException("no such by-name");
        }
        checkAlive(doer);
        if (doer.hasStickingByName()) {
            throw new IllegalStateException("a by-name sticks");
        }
        int before = doer.byName;
        doer.byName = byName;
        doer.tellers = 0L;
        return before;
    }

    public int tell(int teller, int person) throws IndexOutOfBoundsException, UnsupportedOperationException {
        Person speaker = personAt(teller);
        Person bearer = personAt(person);
        if (!speaker.isLiving || !bearer.isLiving || teller == person || bearer.byName == NO_BY_NAME) {
            throw new UnsupportedOperationException("one is dead, both are the same, or there is no by-name");
        }
        bearer.tellers |= 1L << teller;
        return Long.bitCount(bearer.tellers);
    }

    public int move(int person, int land, int clerk)
            throws IndexOutOfBoundsException, IllegalArgumentException, UnsupportedOperationException {
        Person mover = personAt(person);
        Land goal = landAt(land);
        Clerk writer = clerkAt(clerk);
        if (mover.land == goal) {
            throw new IllegalArgumentException("the person is there already");
        }
        checkAlive(mover);
        mover.land = goal;
        return mover.rename(writer.writeDown(mover.given), writer.writeDown(mover.second));
    }

    public boolean isAlive(int person) throws IndexOutOfBoundsException {
        return personAt(person).isLiving;
    }

    public int landOf(int person) throws IndexOutOfBoundsException {
        return personAt(person).land.number;
    }

    public int persons() {
        return people.size();
    }

    // ---- names

    public int length(int person, char what) throws IndexOutOfBoundsException, IllegalArgumentException {
        return nameOf(personAt(person), what).length();
    }

    public char letter(int person, char what, int index)
            throws IndexOutOfBoundsException, IllegalArgumentException, NoSuchElementException {
        return signAt(nameOf(personAt(person), what), index);
    }

    public int changes(int person) throws IndexOutOfBoundsException {
        return personAt(person).openChanges.size();
    }

    public char wasCalled(int person, int index, int at) throws IndexOutOfBoundsException, NoSuchElementException {
        ArrayList<Change> openChanges = personAt(person).openChanges;
        if (index < 0 || index >= openChanges.size()) {
            throw new NoSuchElementException("no such change");
        }
        return signAt(openChanges.get(index).givenAhead, at);
    }

    public boolean isSealed(int person) throws IndexOutOfBoundsException {
        return personAt(person).isUnderSeal;
    }

    public int bearers(int given) throws IllegalArgumentException, NoSuchElementException {
        if (!isGivenName(given)) {
            throw new IllegalArgumentException("no such given name");
        }
        String name = givenWord(given);
        int count = 0;
        for (int i = 0; i < people.size(); i++) {
            Person person = people.get(i);
            if (person.isLiving && person.given.equals(name)) {
                count++;
            }
        }
        if (count > 0 && count < FEWEST_BEARERS_TOLD) {
            throw new NoSuchElementException("what is rare is not told");
        }
        return count;
    }

    public int fashion(int from, int to) throws IllegalArgumentException, NoSuchElementException {
        if (to < from) {
            throw new IllegalArgumentException("the last day is ahead of the first one");
        }
        int most = 0;
        int leader = 0;
        for (int given = 0; given < GIVEN_NAMES; given++) {
            int births = birthsWith(given, from, to);
            if (births > most) {
                most = births;
                leader = given;
            }
        }
        if (most == 0) {
            throw new NoSuchElementException("no births on these days");
        }
        return leader;
    }

    // ---- clerks

    public int addRule(int clerk, char one, char two, char three, char four)
            throws IllegalArgumentException, IllegalStateException {
        Clerk changed = clerkAt(clerk);
        boolean areLetters = isLetter(one) && isLetterOrBlank(two) && isLetterOrBlank(three) && isLetterOrBlank(four);
        boolean hasGap = isLetter(four) && !isLetter(three);
        if (!areLetters || hasGap) {
            throw new IllegalArgumentException("no such rule");
        }
        if (changed.rules.size() >= MOST_RULES) {
            throw new IllegalStateException("there are 8 rules");
        }
        changed.rules.add(new Rule(one, two, three, four));
        return changed.rules.size();
    }

    public int dropRules(int clerk) throws IllegalArgumentException {
        Clerk changed = clerkAt(clerk);
        int before = changed.rules.size();
        changed.rules.clear();
        return before;
    }

    public int setLimit(int clerk, int letters) throws IllegalArgumentException {
        Clerk changed = clerkAt(clerk);
        if (letters < 1 || letters > LONGEST_WRITTEN) {
            throw new IllegalArgumentException("a limit must be 1 to 24");
        }
        int before = changed.limit;
        changed.limit = letters;
        return before;
    }

    // ---- petitions

    public int petition(int person, int given, char ground)
            throws IndexOutOfBoundsException, IllegalArgumentException, UnsupportedOperationException,
            IllegalStateException {
        Person asker = personAt(person);
        if (!isGivenName(given) || !isOneOf(GROUNDS, ground)) {
            throw new IllegalArgumentException("no such name or ground");
        }
        checkAlive(asker);
        if (petitions.size() >= MOST_PETITIONS) {
            throw new IllegalStateException("there are 20 petitions");
        }
        petitions.add(new Petition(asker, given, ground, today));
        return petitions.size() - 1;
    }

    public int oppose(int petition, int by)
            throws IndexOutOfBoundsException, UnsupportedOperationException, IllegalStateException {
        Petition opposed = petitionAt(petition);
        Person opposer = personAt(by);
        if (!canOppose(opposer, opposed)) {
            throw new UnsupportedOperationException("this petition is not open to this one");
        }
        long mark = 1L << by;
        if ((opposed.opposers & mark) != 0L) {
            throw new IllegalStateException("this one opposes it already");
        }
        opposed.opposers |= mark;
        return Long.bitCount(opposed.opposers);
    }

    public boolean decide(int petition) throws IndexOutOfBoundsException, UnsupportedOperationException {
        Petition decided = petitionAt(petition);
        if (decided.isDecided || today - decided.day < DAYS_OF_NOTICE) {
            throw new UnsupportedOperationException("it was decided, or 30 days have not gone by");
        }
        decided.isDecided = true;
        Person asker = decided.asker;
        if (decided.opposers != 0L || !asker.isLiving || asker.land.hasBanned(decided.given)) {
            return false;
        }
        if (decided.isForSafety()) {
            asker.renameUnderSeal(givenWord(decided.given));
            archive.forgetClusters();
        } else {
            asker.rename(givenWord(decided.given), asker.second);
        }
        return true;
    }

    // ---- records

    public int record(int person, int clerk, int book)
            throws IndexOutOfBoundsException, IllegalArgumentException, IllegalStateException {
        Person described = personAt(person);
        Clerk writer = clerkAt(clerk);
        if (book < 0 || book >= BOOKS) {
            throw new IllegalArgumentException("no such book");
        }
        if (archive.entries.size() >= MOST_RECORDS) {
            throw new IllegalStateException("there are 40 records");
        }
        archive.file(new Entry(described, book, today,
                writer.writeDown(described.given), writer.writeDown(described.second)));
        return archive.entries.size() - 1;
    }

    public int records() {
        return archive.entries.size();
    }

    public char slip(int record, boolean isSecond, int index, char letter)
            throws IndexOutOfBoundsException, IllegalArgumentException, NoSuchElementException {
        Entry entry = entryAt(record);
        if (!isLetter(letter)) {
            throw new IllegalArgumentException("no letter");
        }
        char before = signAt(entry.textOf(isSecond), index);
        entry.overwrite(isSecond, index, letter);
        archive.measureAnew(record, isSecond);
        return before;
    }

    public int writtenLength(int record, boolean isSecond) throws IndexOutOfBoundsException {
        return entryAt(record).textOf(isSecond).length();
    }

    public char written(int record, boolean isSecond, int index)
            throws IndexOutOfBoundsException, NoSuchElementException {
        return signAt(entryAt(record).textOf(isSecond), index);
    }

    public char key(int record, boolean isSecond, int index)
            throws IndexOutOfBoundsException, IllegalArgumentException {
        String signs = entryAt(record).keyOf(isSecond);
        if (index < 0 || index >= KEY_SIGNS || index >= signs.length()) {
            throw new IllegalArgumentException("the index must be 0 to 3");
        }
        return signs.charAt(index);
    }

    public boolean isClosed(int record) throws IndexOutOfBoundsException {
        return entryAt(record).isShut();
    }

    public int sorted(int index) throws NoSuchElementException {
        int found = archive.entryAtRank(index);
        if (found < 0) {
            throw new NoSuchElementException("no record there");
        }
        return found;
    }

    // ---- links

    public int setPrice(int limit) throws IllegalArgumentException {
        if (limit < 0 || limit > HIGHEST_LIMIT_OF_PRICES) {
            throw new IllegalArgumentException("a limit must be 0 to 99");
        }
        int before = archive.limit;
        archive.limit = limit;
        archive.forgetClusters();
        return before;
    }

    public int price(int one, int other) throws IndexOutOfBoundsException {
        checkRecords(one, other);
        return archive.priceOf(one, other);
    }

    public int distance(int one, int other, boolean isSecond) throws IndexOutOfBoundsException {
        checkRecords(one, other);
        return archive.distanceOf(one, other, isSecond);
    }

    public boolean isLinked(int one, int other) throws IndexOutOfBoundsException {
        checkRecords(one, other);
        return archive.areLinked(one, other);
    }

    public int cluster(int record) throws IndexOutOfBoundsException {
        checkRecords(record, record);
        return archive.lowestOf(record);
    }

    public int clusters() {
        return archive.countClusters();
    }

    public int clusterAnew(int record) throws IndexOutOfBoundsException {
        checkRecords(record, record);
        return archive.lowestReachedFrom(record);
    }

    public int doubts() {
        return archive.countDoubts();
    }

    public int wrong() {
        return archive.countWrongPairs();
    }

    public int missed() {
        return archive.countMissedPairs();
    }

    // ---- figures

    public long print() {
        long figure = 7L;
        StringBuilder name = new StringBuilder();
        for (int i = 0; i < people.size(); i++) {
            name.setLength(0);
            appendFullName(name, people.get(i));
            for (int at = 0; at < name.length(); at++) {
                figure = 31L * figure + name.charAt(at);
            }
            figure = 31L * figure;
        }
        return figure;
    }

    public float closedShare() throws ArithmeticException {
        int all = archive.entries.size();
        if (all == 0) {
            throw new ArithmeticException("no records");
        }
        return (float) archive.countClosed() / (float) all;
    }

    public double meanPrice() throws ArithmeticException {
        int pairs = archive.countLinkedPairs();
        if (pairs == 0) {
            throw new ArithmeticException("no linked pairs");
        }
        return (double) archive.sumOfLinkedPrices() / (double) pairs;
    }

    public boolean isSound() {
        return areSecondNamesFormedAnew() && archive.areClustersFoundAnew() && archive.areClosedOnesAlone()
                && archive.areKeysWhole() && archive.doPairsAddUp();
    }

    // ---- what the calls share

    private Land landAt(int land) {
        if (land < 0 || land >= lands.length) {
            throw new IllegalArgumentException("no such land");
        }
        return lands[land];
    }

    private Clerk clerkAt(int clerk) {
        if (clerk < 0 || clerk >= clerks.length) {
            throw new IllegalArgumentException("no such clerk");
        }
        return clerks[clerk];
    }

    private Person personAt(int person) {
        if (!isPerson(person)) {
            throw new IndexOutOfBoundsException("no such person");
        }
        return people.get(person);
    }

    private Petition petitionAt(int petition) {
        if (petition < 0 || petition >= petitions.size()) {
            throw new IndexOutOfBoundsException("no such petition");
        }
        return petitions.get(petition);
    }

    private Entry entryAt(int record) {
        if (!archive.hasEntry(record)) {
            throw new IndexOutOfBoundsException("no such record");
        }
        return archive.entries.get(record);
    }

    private void checkRecords(int one, int other) {
        if (!archive.hasEntry(one) || !archive.hasEntry(other)) {
            throw new IndexOutOfBoundsException("no such record");
        }
    }

    private void checkCause(int depth) {
        if (!hasRefused || depth < 0 || depth > 1) {
            throw new NoSuchElementException("no cause so deep");
        }
    }

    private static void checkAlive(Person person) {
        if (!person.isLiving) {
            throw new UnsupportedOperationException("the person is dead");
        }
    }

    private static char signAt(String text, int index) {
        if (index < 0 || index >= text.length()) {
            throw new NoSuchElementException("no such sign");
        }
        return text.charAt(index);
    }

    private boolean isPerson(int person) {
        return person >= 0 && person < people.size();
    }

    private boolean isPersonOrNobody(int person) {
        return person == NOBODY || isPerson(person);
    }

    private static boolean isGivenName(int given) {
        return given >= 0 && given < GIVEN_NAMES;
    }

    private static boolean isOneOf(String letters, char letter) {
        return letters.indexOf(letter) >= 0;
    }

    private static boolean isLetter(char sign) {
        return sign >= 'a' && sign <= 'z';
    }

    private static boolean isLetterOrBlank(char sign) {
        return isLetter(sign) || sign == BLANK;
    }

    private static String givenWord(int given) {
        StringBuilder word = new StringBuilder();
        Texts.appendWord(word, GIVEN_WORDS, given);
        return word.toString();
    }

    // ---- births

    private boolean isRefused(int mother, int father, int given, Land place) {
        if (place.hasBanned(given)) {
            noteRefusal('b', place.number, given);
            return true;
        }
        int child = place.forbidsNamesTwice ? livingChildWith(mother, father, givenWord(given)) : NOBODY;
        if (child == NOBODY) {
            return false;
        }
        noteRefusal('l', child, given);
        return true;
    }

    private void noteRefusal(char letter, int number, int given) {
        hasRefused = true;
        refusal = letter;
        refusalNumber = number;
        refusedGiven = given;
    }

    private int livingChildWith(int mother, int father, String name) {
        for (int i = 0; i < people.size(); i++) {
            Person child = people.get(i);
            boolean isOfMother = mother != NOBODY && child.origin.mother == mother;
            boolean isOfFather = father != NOBODY && child.origin.father == father;
            if (child.isLiving && (isOfMother || isOfFather) && child.given.equals(name)) {
                return i;
            }
        }
        return NOBODY;
    }

    private Origin originOf(int mother, int father, int given, char system) {
        Origin origin = new Origin(mother, father, today, given, system);
        int elder = father != NOBODY ? father : mother;
        if (isPerson(elder)) {
            Origin before = people.get(elder).origin;
            origin.house = before.house;
            origin.generation = before.generation + 1;
        } else {
            origin.house = people.size() % HOUSES;
        }
        origin.root = rootOf(system, mother, father);
        return origin;
    }

    private String rootOf(char system, int mother, int father) {
        if (system == 'p') {
            return firstFilled(givenOf(father), givenOf(mother));
        }
        if (system == 'm') {
            return firstFilled(givenOf(mother), givenOf(father));
        }
        if (system == 'i') {
            return firstFilled(firstFilled(secondOf(father), byNameOf(father)), secondOf(mother));
        }
        return "";
    }

    private static String firstFilled(String one, String other) {
        return one.isEmpty() ? other : one;
    }

    private String givenOf(int person) {
        return isPerson(person) ? people.get(person).given : "";
    }

    private String secondOf(int person) {
        return isPerson(person) ? people.get(person).second : "";
    }

    private String byNameOf(int person) {
        return isPerson(person) ? people.get(person).stickingByName() : "";
    }

    private static void appendFormedSecond(StringBuilder second, Origin origin, char sex) {
        if (origin.system == 'c') {
            Texts.appendWord(second, HOUSE_WORDS, origin.house);
            Texts.appendWord(second, GENERATION_WORDS, origin.generation % GENERATION_NAMES);
        } else if (origin.system == 'd') {
            Texts.appendWord(second, DAY_WORDS, Math.floorMod(origin.day, DAYS_OF_WEEK));
        } else {
            second.append(origin.root);
            if (origin.system != 'i' && !origin.root.isEmpty()) {
                second.append(sex == 'm' ? "son" : "dot");
            }
        }
        Texts.cut(second, LONGEST_NAME);
    }

    private int birthsWith(int given, int from, int to) {
        int births = 0;
        for (int i = 0; i < people.size(); i++) {
            Origin origin = people.get(i).origin;
            if (origin.toldGiven == given && origin.day >= from && origin.day <= to) {
                births++;
            }
        }
        return births;
    }

    // ---- names and their changes

    private static String secondInMarriage(char rule, Person bearer, Person mate, boolean isSecondOne) {
        boolean isOnlyWoman = bearer.sex == 'f' && mate.sex != 'f';
        if ((rule == 'm' && isOnlyWoman) || (rule == 't' && isSecondOne)) {
            return mate.second;
        }
        if (rule != 'h') {
            return bearer.second;
        }
        StringBuilder both = new StringBuilder();
        both.append(bearer.second);
        both.append(DASH);
        both.append(mate.second);
        Texts.cut(both, LONGEST_NAME);
        return both.toString();
    }

    private static String nameOf(Person person, char what) {
        if (!isOneOf(KINDS_OF_NAMES, what)) {
            throw new IllegalArgumentException("no such name");
        }
        if (what == 'g') {
            return person.given;
        }
        if (what == 's') {
            return person.second;
        }
        if (what == 'b') {
            return person.stickingByName();
        }
        StringBuilder name = new StringBuilder();
        if (what == 'f') {
            appendFullName(name, person);
        } else {
            appendOwnersName(name, person.given);
        }
        return name.toString();
    }

    private static void appendFullName(StringBuilder name, Person person) {
        appendPart(name, person.given);
        appendPart(name, person.stickingByName());
        appendPart(name, person.second);
    }

    private static void appendPart(StringBuilder name, String part) {
        if (name.length() > 0 && !part.isEmpty()) {
            name.append(BLANK);
        }
        name.append(part);
    }

    private static void appendOwnersName(StringBuilder name, String given) {
        name.append(given);
        if (!given.isEmpty() && !isOneOf("sxz", given.charAt(given.length() - 1))) {
            name.append('s');
        }
    }

    private static boolean canOppose(Person opposer, Petition petition) {
        if (petition.isDecided || petition.isForSafety() || opposer == petition.asker) {
            return false;
        }
        return opposer.isLiving && opposer.land == petition.asker.land
                && opposer.given.equals(givenWord(petition.given));
    }

    private boolean areSecondNamesFormedAnew() {
        StringBuilder formed = new StringBuilder();
        for (int i = 0; i < people.size(); i++) {
            Person person = people.get(i);
            formed.setLength(0);
            appendFormedSecond(formed, person.origin, person.sex);
            if (!person.hasChangedSecond && !Texts.isSame(formed, person.second)) {
                return false;
            }
        }
        return true;
    }

    /** A land with its laws. */
    private static final class Land {
        private final int number;
        private char system;
        private char marriageRule;
        private boolean forbidsNamesTwice;
        private int bannedNames;

        private Land(int number, char system, char marriageRule) {
            this.number = number;
            this.system = system;
            this.marriageRule = marriageRule;
        }

        private boolean hasBanned(int given) {
            return (bannedNames >> given & 1) != 0;
        }

        private void setBanned(int given, boolean isBanned) {
            int mark = 1 << given;
            bannedNames = isBanned ? bannedNames | mark : bannedNames & ~mark;
        }
    }

    /** How a clerk hears one or two letters. */
    private static final class Rule {
        private final char one;
        private final char two;
        private final char three;
        private final char four;

        private Rule(char one, char two, char three, char four) {
            this.one = one;
            this.two = two;
            this.three = three;
            this.four = four;
        }

        private boolean fits(String text, int at) {
            if (at >= text.length() || text.charAt(at) != one) {
                return false;
            }
            return two == BLANK || (at + 1 < text.length() && text.charAt(at + 1) == two);
        }

        private void appendTo(StringBuilder written) {
            if (three != BLANK) {
                written.append(three);
            }
            if (four != BLANK) {
                written.append(four);
            }
        }
    }

    /** Who writes names as heard. */
    private static final class Clerk {
        private final ArrayList<Rule> rules = new ArrayList<Rule>();
        private int limit = LONGEST_WRITTEN;

        private String writeDown(String text) {
            StringBuilder written = new StringBuilder();
            for (int at = 0; at < text.length(); at++) {
                int number = firstRuleFor(text, at);
                if (number < 0) {
                    written.append(text.charAt(at));
                } else {
                    Rule rule = rules.get(number);
                    rule.appendTo(written);
                    if (rule.two != BLANK) {
                        at++;
                    }
                }
            }
            Texts.cut(written, limit);
            return written.toString();
        }

        private int firstRuleFor(String text, int at) {
            for (int i = 0; i < rules.size(); i++) {
                if (rules.get(i).fits(text, at)) {
                    return i;
                }
            }
            return -1;
        }
    }

    /** What a second name was formed of, kept so that it can be formed again. */
    private static final class Origin {
        private final int mother;
        private final int father;
        private final int day;
        private final int toldGiven;
        private final char system;
        private int house;
        private int generation;
        private String root = "";

        private Origin(int mother, int father, int day, int toldGiven, char system) {
            this.mother = mother;
            this.father = father;
            this.day = day;
            this.toldGiven = toldGiven;
            this.system = system;
        }
    }

    /** What somebody was called ahead of a change. */
    private static final class Change {
        private final String givenAhead;

        private Change(String givenAhead) {
            this.givenAhead = givenAhead;
        }
    }

    /** Somebody who bears names. */
    private static final class Person {
        private final char sex;
        private final Origin origin;
        private final ArrayList<Change> openChanges = new ArrayList<Change>();
        private Land land;
        private String given;
        private String second;
        private boolean hasChangedSecond;
        private boolean isLiving = true;
        private boolean isUnderSeal;
        private int mate = NOBODY;
        private int byName = NO_BY_NAME;
        private long tellers;

        private Person(char sex, Origin origin, Land land, String given, String second) {
            this.sex = sex;
            this.origin = origin;
            this.land = land;
            this.given = given;
            this.second = second;
        }

        private boolean isMarried() {
            return mate != NOBODY;
        }

        private boolean canMarry() {
            return isLiving && !isMarried();
        }

        private boolean hasStickingByName() {
            return byName != NO_BY_NAME && Long.bitCount(tellers) >= TELLERS_TO_STICK;
        }

        private String stickingByName() {
            if (!hasStickingByName()) {
                return "";
            }
            StringBuilder word = new StringBuilder();
            Texts.appendWord(word, BY_NAME_WORDS, byName);
            return word.toString();
        }

        /** An act is one change, however many names it touches; beyond the promised calls no more are kept. */
        private int rename(String givenThen, String secondThen) {
            boolean isGivenNew = !givenThen.equals(given);
            boolean isSecondNew = !secondThen.equals(second);
            if ((isGivenNew || isSecondNew) && openChanges.size() < MOST_CALLS) {
                openChanges.add(new Change(given));
            }
            given = givenThen;
            second = secondThen;
            hasChangedSecond |= isSecondNew;
            return (isGivenNew ? 1 : 0) + (isSecondNew ? 1 : 0);
        }

        /** Nothing of the change is kept, since no call may tell of it. */
        private void renameUnderSeal(String givenThen) {
            given = givenThen;
            isUnderSeal = true;
        }
    }

    /** What somebody asks to be called. */
    private static final class Petition {
        private final Person asker;
        private final int given;
        private final char ground;
        private final int day;
        private long opposers;
        private boolean isDecided;

        private Petition(Person asker, int given, char ground, int day) {
            this.asker = asker;
            this.given = given;
            this.ground = ground;
            this.day = day;
        }

        private boolean isForSafety() {
            return ground == 's';
        }
    }

    /** A record of a person in a book. */
    private static final class Entry {
        private final Person person;
        private final int book;
        private final int day;
        private String given;
        private String second;
        private String givenKey;
        private String secondKey;

        private Entry(Person person, int book, int day, String given, String second) {
            this.person = person;
            this.book = book;
            this.day = day;
            this.given = given;
            this.second = second;
            this.givenKey = Texts.soundKey(given);
            this.secondKey = Texts.soundKey(second);
        }

        private String textOf(boolean isSecond) {
            return isSecond ? second : given;
        }

        private String keyOf(boolean isSecond) {
            return isSecond ? secondKey : givenKey;
        }

        private boolean isShut() {
            return person.isUnderSeal;
        }

        private void overwrite(boolean isSecond, int index, char letter) {
            StringBuilder text = new StringBuilder();
            text.append(textOf(isSecond));
            if (index >= 0 && index < text.length()) {
                text.setCharAt(index, letter);
            }
            if (isSecond) {
                second = text.toString();
                secondKey = Texts.soundKey(second);
            } else {
                given = text.toString();
                givenKey = Texts.soundKey(given);
            }
        }
    }

    /** All records, and how near they are to one another. */
    private static final class Archive {
        private final ArrayList<Entry> entries = new ArrayList<Entry>();
        // Distances change with a record or a slip alone, and all else asks for them often.
        private final int[][] givenDistances = new int[MOST_RECORDS][MOST_RECORDS];
        private final int[][] secondDistances = new int[MOST_RECORDS][MOST_RECORDS];
        private final int[] distanceRow = new int[LONGEST_WRITTEN + 1];
        private final int[] lowest = new int[MOST_RECORDS];
        private final int[] waiting = new int[MOST_RECORDS];
        private boolean areClustersKnown;
        private int limit = FIRST_LIMIT_OF_PRICES;

        private boolean hasEntry(int record) {
            return record >= 0 && record < entries.size();
        }

        private void forgetClusters() {
            areClustersKnown = false;
        }

        private void file(Entry entry) {
            if (entries.size() < MOST_RECORDS) {
                entries.add(entry);
                measureAnew(entries.size() - 1, false);
                measureAnew(entries.size() - 1, true);
            }
        }

        private void measureAnew(int record, boolean isSecond) {
            if (!hasEntry(record)) {
                return;
            }
            int[][] distances = isSecond ? secondDistances : givenDistances;
            String text = entries.get(record).textOf(isSecond);
            for (int other = 0; other < entries.size(); other++) {
                int steps = other == record ? 0 : leastSteps(text, entries.get(other).textOf(isSecond));
                distances[record][other] = steps;
                distances[other][record] = steps;
            }
            forgetClusters();
        }

        private int leastSteps(String from, String to) {
            int width = Math.min(to.length(), LONGEST_WRITTEN);
            for (int column = 0; column <= width; column++) {
                distanceRow[column] = column;
            }
            for (int line = 0; line < from.length(); line++) {
                char sign = from.charAt(line);
                int corner = distanceRow[0];
                distanceRow[0] = line + 1;
                for (int column = 1; column <= width; column++) {
                    int exchanged = sign == to.charAt(column - 1) ? corner : corner + 1;
                    corner = distanceRow[column];
                    int moved = Math.min(corner, distanceRow[column - 1]) + 1;
                    distanceRow[column] = Math.min(exchanged, moved);
                }
            }
            return distanceRow[width];
        }

        private int distanceOf(int one, int other, boolean isSecond) {
            return isSecond ? secondDistances[one][other] : givenDistances[one][other];
        }

        private int priceOf(int one, int other) {
            Entry first = entries.get(one);
            Entry second = entries.get(other);
            int sum = 3 * givenDistances[one][other] + 2 * secondDistances[one][other];
            if (first.person.sex != second.person.sex) {
                sum += 50;
            }
            sum += Math.min(Math.abs(first.day - second.day) / 10, 20);
            return areOfOneBookAndDay(first, second) ? sum + 30 : sum;
        }

        private static boolean areOfOneBookAndDay(Entry one, Entry other) {
            return one.book == other.book && one.day == other.day;
        }

        private boolean areLinked(int one, int other) {
            Entry first = entries.get(one);
            Entry second = entries.get(other);
            if (one == other || first.isShut() || second.isShut()) {
                return false;
            }
            boolean areKeysAlike =
                    first.givenKey.equals(second.givenKey) || first.secondKey.equals(second.secondKey);
            return areKeysAlike && priceOf(one, other) <= limit;
        }

        private int lowestOf(int record) {
            findClusters();
            return lowest[record];
        }

        private void findClusters() {
            if (areClustersKnown) {
                return;
            }
            for (int record = 0; record < entries.size(); record++) {
                lowest[record] = record;
                for (int other = 0; other < record; other++) {
                    if (areLinked(record, other)) {
                        joinClusters(record, other);
                    }
                }
            }
            areClustersKnown = true;
        }

        /** Only records up to the newest one have a cluster yet. */
        private void joinClusters(int newest, int other) {
            int low = Math.min(lowest[newest], lowest[other]);
            int high = Math.max(lowest[newest], lowest[other]);
            for (int record = 0; record <= newest && low != high; record++) {
                if (lowest[record] == high) {
                    lowest[record] = low;
                }
            }
        }

        /** Goes over the links themselves, so that it can prove the clusters that are kept. */
        private long reachedFrom(int start) {
            long reached = 1L << start;
            int found = 1;
            waiting[0] = start;
            for (int next = 0; next < found && next < waiting.length; next++) {
                for (int other = 0; other < entries.size(); other++) {
                    boolean isNew = !isMarked(reached, other) && areLinked(waiting[next], other);
                    if (isNew && found < waiting.length) {
                        reached |= 1L << other;
                        waiting[found] = other;
                        found++;
                    }
                }
            }
            return reached;
        }

        private static boolean isMarked(long marks, int record) {
            return (marks >> record & 1L) != 0L;
        }

        private int lowestReachedFrom(int start) {
            long reached = reachedFrom(start);
            for (int record = 0; record < start; record++) {
                if (isMarked(reached, record)) {
                    return record;
                }
            }
            return start;
        }

        private int countClusters() {
            findClusters();
            int count = 0;
            for (int record = 0; record < entries.size(); record++) {
                if (lowest[record] == record && !entries.get(record).isShut()) {
                    count++;
                }
            }
            return count;
        }

        private int countDoubts() {
            findClusters();
            long doubtful = 0L;
            for (int one = 0; one < entries.size(); one++) {
                for (int other = 0; other < one; other++) {
                    if (lowest[one] == lowest[other] && isDoubtful(one, other)) {
                        doubtful |= 1L << lowest[one];
                    }
                }
            }
            return Long.bitCount(doubtful);
        }

        private boolean isDoubtful(int one, int other) {
            return priceOf(one, other) >= PRICE_IN_DOUBT
                    || areOfOneBookAndDay(entries.get(one), entries.get(other));
        }

        private int countWrongPairs() {
            return countPairs(true, false);
        }

        private int countRightPairs() {
            return countPairs(true, true);
        }

        private int countMissedPairs() {
            return countPairs(false, true);
        }

        private int countPairs(boolean areInOneCluster, boolean areOfOnePerson) {
            findClusters();
            int count = 0;
            for (int one = 0; one < entries.size(); one++) {
                for (int other = 0; other < one; other++) {
                    boolean isAsAsked = (lowest[one] == lowest[other]) == areInOneCluster
                            && (entries.get(one).person == entries.get(other).person) == areOfOnePerson;
                    // Closed records share no cluster, so this leaves out just what would seem to be missed.
                    if (isAsAsked && !entries.get(one).isShut() && !entries.get(other).isShut()) {
                        count++;
                    }
                }
            }
            return count;
        }

        private int countPairsThatMatter() {
            findClusters();
            int count = 0;
            for (int one = 0; one < entries.size(); one++) {
                for (int other = 0; other < one; other++) {
                    boolean isMissable = entries.get(one).person == entries.get(other).person
                            && !entries.get(one).isShut();
                    if (isMissable || lowest[one] == lowest[other]) {
                        count++;
                    }
                }
            }
            return count;
        }

        private boolean doPairsAddUp() {
            return countWrongPairs() + countMissedPairs() + countRightPairs() == countPairsThatMatter();
        }

        private boolean areClustersFoundAnew() {
            findClusters();
            long seen = 0L;
            for (int start = 0; start < entries.size(); start++) {
                if (!isMarked(seen, start)) {
                    long reached = reachedFrom(start);
                    if (!isClusterOf(start, reached)) {
                        return false;
                    }
                    seen |= reached;
                }
            }
            return true;
        }

        private boolean isClusterOf(int start, long members) {
            for (int record = 0; record < entries.size(); record++) {
                if (isMarked(members, record) != (lowest[record] == start)) {
                    return false;
                }
            }
            return true;
        }

        private boolean areClosedOnesAlone() {
            for (int one = 0; one < entries.size(); one++) {
                for (int other = 0; other < entries.size() && entries.get(one).isShut(); other++) {
                    boolean isTogether = one != other && lowestOf(one) == lowestOf(other);
                    if (isTogether || areLinked(one, other)) {
                        return false;
                    }
                }
            }
            return true;
        }

        private boolean areKeysWhole() {
            for (int record = 0; record < entries.size(); record++) {
                Entry entry = entries.get(record);
                if (entry.givenKey.length() != KEY_SIGNS || entry.secondKey.length() != KEY_SIGNS) {
                    return false;
                }
            }
            return true;
        }

        private int countClosed() {
            int count = 0;
            for (int record = 0; record < entries.size(); record++) {
                if (entries.get(record).isShut()) {
                    count++;
                }
            }
            return count;
        }

        private int countLinkedPairs() {
            int count = 0;
            for (int one = 0; one < entries.size(); one++) {
                for (int other = 0; other < one; other++) {
                    if (areLinked(one, other)) {
                        count++;
                    }
                }
            }
            return count;
        }

        private int sumOfLinkedPrices() {
            int sum = 0;
            for (int one = 0; one < entries.size(); one++) {
                for (int other = 0; other < one; other++) {
                    if (areLinked(one, other)) {
                        sum += priceOf(one, other);
                    }
                }
            }
            return sum;
        }

        private int entryAtRank(int rank) {
            for (int record = 0; record < entries.size(); record++) {
                if (countAheadOf(record) == rank) {
                    return record;
                }
            }
            return -1;
        }

        private int countAheadOf(int record) {
            int count = 0;
            for (int other = 0; other < entries.size(); other++) {
                if (compareEntries(other, record) < 0) {
                    count++;
                }
            }
            return count;
        }

        private int compareEntries(int one, int other) {
            Entry first = entries.get(one);
            Entry second = entries.get(other);
            int bySecond = Texts.compareTexts(first.second, second.second);
            if (bySecond != 0) {
                return bySecond;
            }
            int byGiven = Texts.compareTexts(first.given, second.given);
            return byGiven != 0 ? byGiven : Integer.compare(one, other);
        }
    }

    /** What is done with texts alone. */
    private static final class Texts {
        private static void appendWord(StringBuilder text, String words, int number) {
            int word = 0;
            for (int i = 0; i < words.length() && word <= number; i++) {
                char sign = words.charAt(i);
                if (sign == BLANK) {
                    word++;
                } else if (word == number) {
                    text.append(sign);
                }
            }
        }

        private static void cut(StringBuilder text, int signs) {
            if (text.length() > signs) {
                text.setLength(signs);
            }
        }

        private static boolean isSame(StringBuilder one, String other) {
            if (one.length() != other.length()) {
                return false;
            }
            for (int i = 0; i < other.length(); i++) {
                if (one.charAt(i) != other.charAt(i)) {
                    return false;
                }
            }
            return true;
        }

        /** The number of a dash is below those of letters, so signs can be compared by their numbers. */
        private static int compareTexts(String one, String other) {
            int common = Math.min(one.length(), other.length());
            for (int i = 0; i < common; i++) {
                if (one.charAt(i) != other.charAt(i)) {
                    return Integer.compare(one.charAt(i), other.charAt(i));
                }
            }
            return Integer.compare(one.length(), other.length());
        }

        private static String soundKey(String text) {
            StringBuilder signs = new StringBuilder();
            if (!text.isEmpty()) {
                signs.append(text.charAt(0));
            }
            for (int i = 1; i < text.length() && signs.length() < KEY_SIGNS; i++) {
                char digit = digitOf(text.charAt(i));
                if (digit != '0' && digit != digitOf(text.charAt(i - 1))) {
                    signs.append(digit);
                }
            }
            for (int i = signs.length(); i < KEY_SIGNS; i++) {
                signs.append('0');
            }
            return signs.toString();
        }

        private static char digitOf(char sign) {
            return isLetter(sign) ? DIGITS_OF_LETTERS.charAt(sign - 'a') : '0';
        }
    }
}
