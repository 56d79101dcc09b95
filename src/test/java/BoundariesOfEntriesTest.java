/** The boundary cases that stand under "Entries". */
public final class BoundariesOfEntriesTest extends Boundaries {
    private static final String HEADING = "Entries";

    public static void main(String[] args) {
        atMost60Entries();
        textNumberOf0To999OrChangeEntry();
        termInWhichItWasProposed();
        proposedOrAgreed();
        proposedOneAfterTheOther();
        elderWhoIsPresentProposes();
        secondIfAllEntriesBeforeItAreInTheCopy();
        copyHasItThen();
        majorityOfTheOldAndOfTheNewCouncil();
        allEntriesBeforeItAreAgreed();
        presentDoesNotMatter();
        agreedOneAfterTheOther();
        agreedUntilOneIsNot();
        oneChangeEntryThatIsNotAgreed();
        whoComesHasTheCopyAsItIs();
        whoIsBackHasTheCopyAsItIs();
        whoBecomesAnElderHasTheCopyAsItIs();
        learnsWhatIsAgreedAndNotInTheCopy();
        end("BoundariesOfEntriesTest");
    }

    private static void atMost60Entries() {
        says(HEADING, "The log has at most 60 entries, numbered from 0.");
        VillageLog log = Villages.of(1, 1);
        due("entry(0, 0) of an empty log", log.entry(0, 0), BAD);
        for (int entry = 0; entry < 60; entry++) {
            due("propose(0, " + entry + ")", log.propose(0, entry), entry);
            due("the last entry", log.entry(entry, 0), entry);
            due("the one behind it", log.entry(entry + 1, 0), BAD);
        }
        due("a 61st", log.propose(0, 0), FULL);
        due("entries", log.count(4), 60);
        due("the copy", log.villager(0, 1), 60);
        due("entry(-1, 0)", log.entry(-1, 0), BAD);
    }

    private static void textNumberOf0To999OrChangeEntry() {
        says(HEADING, "An entry has a text number of 0 to 999 or is a change entry");
        VillageLog log = Villages.of(2, 1);
        due("-1", log.propose(0, -1), BAD);
        due("1000", log.propose(0, 1000), BAD);
        due("NONE, as if it were a change entry", log.propose(0, NONE), BAD);
        due("0", log.propose(0, 0), 0);
        due("999", log.propose(0, 999), 1);
        log.change(0, 0);
        due("the number 0", log.entry(0, 0), 0);
        due("the number 999", log.entry(1, 0), 999);
        due("a change entry", log.entry(2, 0), NONE);
    }

    private static void termInWhichItWasProposed() {
        says(HEADING, "it has the term in which it was proposed.");
        VillageLog log = Villages.of(2, 1);
        log.propose(0, 1);
        log.change(0, 0);
        log.propose(0, 2);
        Villages.second(log, 1, 0, 1);
        due("the change is over", log.count(3), 1);
        due("before the change", log.entry(0, 1), 0);
        due("the change entry itself", log.entry(1, 1), 0);
        due("proposed while the change went on", log.entry(2, 1), 0);
        due("agreed after the change", log.second(1, 2), 1);
        due("its term stays", log.entry(2, 1), 0);
        log.propose(1, 3);
        due("after the change", log.entry(3, 1), 1);
    }

    private static void proposedOrAgreed() {
        says(HEADING, "It is proposed, or agreed.");
        VillageLog log = Villages.of(2, 2);
        Villages.propose(log, 0, 2);
        due("proposed", log.entry(0, 2), 0);
        log.second(1, 0);
        due("agreed", log.entry(0, 2), 1);
        due("the next one is proposed", log.entry(1, 2), 0);
        log.undo();
        due("proposed as it was", log.entry(0, 2), 0);
    }

    private static void proposedOneAfterTheOther() {
        says(HEADING, "Entries are proposed one after the other");
        VillageLog log = Villages.of(3, 2);
        due("the first", log.propose(0, 5), 0);
        due("one who lacks it", log.propose(1, 6), ILLEGAL);
        due("the second", log.propose(0, 7), 1);
        log.undo();
        due("in the place of the one undone", log.change(0, 1), 2);
        due("it is the second", log.entry(1, 0), NONE);
        due("the third", log.propose(0, 8), 2);
        due("entries", log.count(4), 3);
    }

    private static void elderWhoIsPresentProposes() {
        says(HEADING, "an elder of the old or of the new council who is present proposes an entry, and has it in the own copy from then on.");
        VillageLog log = Villages.of(4, 2);
        due("no elder", log.propose(2, 1), ILLEGAL);
        log.change(0, 1);
        log.second(1, 0);
        log.attend(1, 0);
        due("an elder who is away", log.propose(1, 1), ILLEGAL);
        log.attend(1, 1);
        due("an elder of the old council", log.propose(1, 1), 1);
        due("has it in the copy", log.villager(1, 1), 2);
        Villages.second(log, 2, 0, 1);
        due("the change is over", log.count(6), 0);
        due("one who has just left", log.propose(1, 2), ILLEGAL);
        due("one who has just come in", log.propose(2, 2), 2);
        due("has it in the copy", log.villager(2, 1), 3);
        VillageLog alone = Villages.of(2, 1);
        alone.propose(0, 1);
        alone.learn(1);
        due("no elder, with all entries", alone.propose(1, 2), ILLEGAL);
    }

    private static void secondIfAllEntriesBeforeItAreInTheCopy() {
        says(HEADING, "can second an entry, be it agreed already or not, if all entries before it are in the elder's copy");
        VillageLog log = Villages.of(4, 3);
        Villages.propose(log, 0, 3);
        due("the third without the second", log.second(1, 2), ILLEGAL);
        due("the second without the first", log.second(1, 1), ILLEGAL);
        due("the first", log.second(1, 0), 1);
        due("the third without the second", log.second(1, 2), ILLEGAL);
        due("the second", log.second(1, 1), 1);
        due("one that is agreed already", log.second(2, 0), 0);
        due("another one", log.second(2, 1), 0);
        due("one that is not", log.second(2, 2), 1);
        due("no elder", log.second(3, 0), ILLEGAL);
    }

    private static void copyHasItThen() {
        says(HEADING, "the copy has it then, too.");
        VillageLog log = Villages.of(3, 3);
        log.propose(0, 1);
        due("before it", log.villager(1, 1), 0);
        log.second(1, 0);
        due("an entry that is agreed by it", log.villager(1, 1), 1);
        log.second(2, 0);
        due("an entry that was agreed already", log.villager(2, 1), 1);
        due("it is in all copies", log.entry(0, 3), 3);
    }

    private static void majorityOfTheOldAndOfTheNewCouncil() {
        says(HEADING, "in those of a majority of the old council and of a majority of the new one");
        VillageLog oldFirst = Villages.of(5, 4);
        oldFirst.change(0, 3);
        oldFirst.second(1, 0);
        due("half of both", oldFirst.count(5), 0);
        due("three of the old one, half of the new one", oldFirst.second(3, 0), 0);
        due("three of both", oldFirst.second(4, 0), 1);

        VillageLog newFirst = Villages.of(5, 4);
        newFirst.change(0, 3);
        newFirst.second(1, 0);
        due("three of the new one, half of the old one", newFirst.second(4, 0), 0);
        due("three of both", newFirst.second(3, 0), 1);

        VillageLog one = Villages.of(2, 1);
        one.change(0, 0);
        due("one of one, none of one", one.count(5), 0);
        due("one of one each", one.second(1, 0), 1);

        VillageLog before = Villages.of(3, 2);
        before.propose(0, 1);
        before.change(0, 1);
        due("an entry before the change, all of the old council", before.second(1, 0), 0);
        due("all of both", before.second(2, 0), 1);
    }

    private static void allEntriesBeforeItAreAgreed() {
        says(HEADING, "and all entries before it are agreed.");
        VillageLog log = Villages.of(4, 3);
        due("change(0, 2)", log.change(0, 2), 3);
        log.propose(0, 7);
        Villages.second(log, 3, 0, 1);
        due("two of the new council have the second entry", log.entry(1, 6), 2);
        due("it is not agreed without the change entry", log.entry(1, 2), 0);
        due("the change entry is agreed, then the second one", log.second(1, 0), 2);
        due("now it is agreed", log.entry(1, 2), 1);
    }

    private static void presentDoesNotMatter() {
        says(HEADING, "Whether elders are present does not matter for this.");
        VillageLog log = Villages.of(5, 5);
        log.propose(0, 1);
        log.attend(0, 0);
        log.second(1, 0);
        log.attend(1, 0);
        log.attend(2, 0);
        log.attend(3, 0);
        due("the only one who is present is the third", log.second(4, 0), 1);
        log.attend(4, 0);
        due("it stays agreed when all are away", log.entry(0, 2), 1);

        VillageLog away = Villages.of(3, 3);
        away.propose(0, 1);
        away.attend(1, 0);
        away.attend(2, 0);
        due("one is no majority, though all others are away", away.count(5), 0);
    }

    private static void agreedOneAfterTheOther() {
        says(HEADING, "If several entries can be agreed by that, they are agreed one after the other.");
        VillageLog log = Villages.of(4, 2);
        log.change(0, 0);
        Villages.second(log, 2, 0, 0);
        log.propose(2, 1);
        log.propose(2, 2);
        log.forge(3);
        Villages.second(log, 1, 0, 2);
        due("nothing is agreed", log.count(5), 0);
        due("forge(2)", log.forge(2), 3);
        due("three are agreed", log.count(5), 3);
        due("the term is greater by one", log.count(3), 1);
    }

    private static void agreedUntilOneIsNot() {
        says(HEADING, "If several entries can be agreed by that, they are agreed one after the other.");
        VillageLog log = Villages.of(6, 4);
        due("change(0, 1)", log.change(0, 1), 4);
        Villages.propose(log, 0, 3);
        Villages.second(log, 2, 0, 3);
        Villages.second(log, 4, 0, 2);
        due("three of the new council, two of the old one", log.count(5), 0);
        due("the change entry and two more", log.second(1, 0), 3);
        due("the fourth lacks one elder", log.entry(3, 2), 0);
        due("missing(3)", log.missing(3), 1);
    }

    private static void oneChangeEntryThatIsNotAgreed() {
        says(HEADING, "While a change goes on, there is one change entry that is not agreed, and no other change can begin.");
        VillageLog log = Villages.of(4, 2);
        due("change(0, 0)", log.change(0, 0), 2);
        due("another seat", log.change(0, 1), ILLEGAL);
        due("the same seat", log.change(0, 0), ILLEGAL);
        log.second(1, 0);
        due("another elder", log.change(1, 1), ILLEGAL);
        due("the change entry", log.entry(0, 0), NONE);
        due("it is not agreed", log.entry(0, 2), 0);
        log.second(2, 0);
        due("it is agreed", log.entry(0, 2), 1);
        due("the next change", log.change(1, 1) >= 0 ? 1 : 0, 1);
        due("its entry is not agreed", log.entry(1, 2), 0);
        due("the first one stays agreed", log.entry(0, 2), 1);
    }

    private static void whoComesHasTheCopyAsItIs() {
        says(HEADING, "Who comes, learns, is back, or becomes an elder has the copy as it is");
        VillageLog log = Villages.of(1, 1);
        Villages.propose(log, 0, 3);
        due("come()", log.come(), 1);
        due("the copy is empty", log.villager(1, 1), 0);
        due("learn(1)", log.learn(1), 3);
        due("the copy", log.villager(1, 1), 3);
        log.propose(0, 4);
        due("it is no longer all", log.villager(1, 1), 3);
    }

    private static void whoIsBackHasTheCopyAsItIs() {
        says(HEADING, "Who comes, learns, is back, or becomes an elder has the copy as it is");
        VillageLog log = Villages.of(3, 3);
        Villages.propose(log, 0, 3);
        log.second(2, 0);
        log.attend(2, 0);
        due("who is away keeps the copy", log.villager(2, 1), 1);
        Villages.second(log, 1, 0, 2);
        log.attend(2, 1);
        due("who is back has the one entry", log.villager(2, 1), 1);
        due("and lacks the second", log.second(2, 2), ILLEGAL);
    }

    private static void whoBecomesAnElderHasTheCopyAsItIs() {
        says(HEADING, "Who comes, learns, is back, or becomes an elder has the copy as it is");
        VillageLog log = Villages.of(3, 1);
        Villages.propose(log, 0, 2);
        log.learn(2);
        due("change(0, 0)", log.change(0, 0), 1);
        due("the drawn one has an empty copy", log.villager(1, 1), 0);
        due("and cannot second the change", log.second(1, 2), ILLEGAL);
        due("forge(2)", log.forge(2), 1);
        due("the forged one has what was learned", log.villager(2, 1), 2);
        due("and can second the change", log.second(2, 2), 1);
        due("who left keeps the copy", log.villager(0, 1), 3);
    }

    private static void learnsWhatIsAgreedAndNotInTheCopy() {
        says(HEADING, "a villager who is present can learn: the copy gets all entries that are agreed and that it does not have.");
        VillageLog log = Villages.of(4, 2);
        Villages.propose(log, 0, 4);
        Villages.second(log, 1, 0, 1);
        due("two are agreed", log.learn(2), 2);
        due("not those that are only proposed", log.villager(2, 1), 2);
        due("nothing more", log.learn(2), 0);
        due("who has more than what is agreed", log.learn(0), 0);
        due("keeps it", log.villager(0, 1), 4);
        log.second(1, 2);
        due("only the third", log.learn(2), 1);
        due("from the first one on", log.learn(3), 3);
        log.attend(3, 0);
        log.second(1, 3);
        due("one who is away", log.learn(3), ILLEGAL);
    }
}
