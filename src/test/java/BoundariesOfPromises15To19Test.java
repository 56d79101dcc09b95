/** The boundary cases that stand under the promises 15 to 19. */
public final class BoundariesOfPromises15To19Test extends Boundaries {
    private static final String COUNT = "Promise 15: count";
    private static final String ELDER = "Promise 16: elder";
    private static final String VILLAGER = "Promise 17: villager";
    private static final String ENTRY = "Promise 18: entry";
    private static final String DRAW = "Promise 19: draw";

    public static void main(String[] args) {
        countOfVillagersAndEntries();
        countOfAChange();
        countOfDraws();
        countOfStatesAndCharacters();
        countOutOfRange();
        elderOfTheOnlyCouncil();
        elderNoSuchCouncilOrSeat();
        elderOfTheNewCouncilIfNoChangeGoesOn();
        villagerPresentAndCopy();
        villagerSeats();
        villagerSeatIfNoChangeGoesOn();
        villagerHowOftenDrawn();
        villagerNoSuchVillagerOrWhat();
        entryTextNumber();
        entryTerm();
        entryAgreed();
        entryCopies();
        entryProposer();
        entryElders();
        entryEldersIfNoChangeGoesOn();
        entryNoSuchEntryOrWhat();
        drawFromTheFirstOne();
        drawStaysAsItWasWritten();
        drawForged();
        drawNoSuchDrawOrWhat();
        end("BoundariesOfPromises15To19Test");
    }

    private static void countOfVillagersAndEntries() {
        says(COUNT, "0 the number of villagers, 1 of those who are present, 2 the size of the council, 3 the term, 4 the number of entries, 5 of entries that are agreed");
        VillageLog log = Villages.of(12, 5);
        due("villagers", log.count(0), 12);
        due("present", log.count(1), 12);
        log.attend(11, 0);
        due("present", log.count(1), 11);
        due("the size", log.count(2), 5);
        Villages.propose(log, 0, 60);
        due("entries", log.count(4), 60);
        due("agreed", log.count(5), 0);
        Villages.second(log, 1, 0, 59);
        Villages.second(log, 2, 0, 58);
        due("all but one", log.count(5), 59);
        log.second(2, 59);
        due("all", log.count(5), 60);
        due("the term", log.count(3), 0);
    }

    private static void countOfAChange() {
        says(COUNT, "6 1 if a change goes on and 0 if not");
        VillageLog log = Villages.of(2, 1);
        due("before it", log.count(6), 0);
        log.change(0, 0);
        due("while it goes on", log.count(6), 1);
        due("the size stays", log.count(2), 1);
        log.second(1, 0);
        due("after it", log.count(6), 0);
        log.undo();
        due("undone", log.count(6), 1);
        log.undo();
        due("undone again", log.count(6), 0);
    }

    private static void countOfDraws() {
        says(COUNT, "7 the state of the lot, 8 the number of draws, 9 the number of draws that are forged");
        VillageLog log = Villages.of(3, 1);
        due("the lot", log.count(7), 1);
        due("draws", log.count(8), 0);
        due("forged", log.count(9), 0);
        due("change(0, 0)", log.change(0, 0), 1);
        due("the lot", log.count(7), after(1));
        due("draws", log.count(8), 1);
        due("forged", log.count(9), 0);
        log.forge(2);
        due("forged", log.count(9), 1);
        log.forge(1);
        due("the drawn one again", log.count(9), 0);
        log.forge(2);
        log.second(2, 0);
        due("forged for good", log.count(9), 1);
        log.change(2, 0);
        due("draws", log.count(8), 2);
        due("the lot", log.count(7), after(after(1)));
        due("forged", log.count(9), 1);
        log.undo();
        due("draws", log.count(8), 1);
        due("the lot", log.count(7), after(1));
    }

    private static void countOfStatesAndCharacters() {
        says(COUNT, "10 of states in the history, 11 the length of the text");
        VillageLog log = new VillageLog();
        for (int calls = 0; calls <= 7; calls++) {
            due("states", log.count(10), Math.min(5, calls));
            log.come();
        }
        for (int length = 0; length <= 60; length++) {
            due("the length", log.count(11), length);
            log.append('x');
        }
        due("the length", log.count(11), 60);
    }

    private static void countOutOfRange() {
        says(COUNT, "INVALID_ARGUMENT if what is out of range.");
        VillageLog log = Villages.of(2, 1);
        due("count(-1)", log.count(-1), BAD);
        due("count(11)", log.count(11), 0);
        due("count(12)", log.count(12), BAD);
        for (int strange : STRANGE) {
            due("count(" + strange + ")", log.count(strange), BAD);
        }
    }

    private static void elderOfTheOnlyCouncil() {
        says(ELDER, "0 for the old council (the only one, if no change goes on), 1 for the new one");
        VillageLog log = Villages.of(6, 5);
        for (int seat = 0; seat < 5; seat++) {
            due("the only one", log.elder(0, seat), seat);
        }
        log.change(0, 4);
        due("the old one", log.elder(0, 4), 4);
        due("the new one", log.elder(1, 4), 5);
        due("the first seat of the new one", log.elder(1, 0), 0);
        log.second(1, 0);
        log.second(2, 0);
        due("the only one is the new one", log.elder(0, 4), 5);
    }

    private static void elderNoSuchCouncilOrSeat() {
        says(ELDER, "INVALID_ARGUMENT if council is neither 0 nor 1, or there is no such seat");
        for (int size = 0; size <= 5; size++) {
            VillageLog log = Villages.of(6, size);
            due("the seat behind the last of " + size, log.elder(0, size), BAD);
            due("that of the new one", log.elder(1, size), BAD);
            due("the seat -1", log.elder(0, -1), BAD);
            due("the council -1", log.elder(-1, 0), BAD);
            due("the council 2", log.elder(2, 0), BAD);
        }
        VillageLog log = Villages.of(6, 5);
        log.change(0, 0);
        for (int strange : STRANGE) {
            due("elder(" + strange + ", 0)", log.elder(strange, 0), BAD);
            due("elder(0, " + strange + ")", log.elder(0, strange), BAD);
            due("elder(1, " + strange + ")", log.elder(1, strange), BAD);
        }
        due("the seat 5 of the new one", log.elder(1, 5), BAD);
        due("the last seat of the new one", log.elder(1, 4), 4);
    }

    private static void elderOfTheNewCouncilIfNoChangeGoesOn() {
        says(ELDER, "NONE for the new one if no change goes on.");
        VillageLog log = Villages.of(3, 2);
        due("the first seat", log.elder(1, 0), NONE);
        due("the last seat", log.elder(1, 1), NONE);
        due("no seat", log.elder(1, 2), BAD);
        log.change(0, 1);
        due("while it goes on", log.elder(1, 1), 2);
        log.second(1, 0);
        log.second(2, 0);
        due("after it", log.elder(1, 1), NONE);
    }

    private static void villagerPresentAndCopy() {
        says(VILLAGER, "0 1 if present and 0 if away, 1 the number of entries in the copy");
        VillageLog log = Villages.of(2, 1);
        due("present", log.villager(1, 0), 1);
        due("an empty copy", log.villager(1, 1), 0);
        log.attend(1, 0);
        due("away", log.villager(1, 0), 0);
        log.attend(1, 1);
        Villages.propose(log, 0, 60);
        due("a full copy", log.villager(0, 1), 60);
        due("still an empty copy", log.villager(1, 1), 0);
        log.learn(1);
        due("another full copy", log.villager(1, 1), 60);
    }

    private static void villagerSeats() {
        says(VILLAGER, "2 the seat in the old council and 3 in the new one (NONE without one");
        VillageLog log = Villages.of(7, 5);
        due("change(0, 4)", log.change(0, 4), 5);
        for (int villager = 0; villager < 7; villager++) {
            due("the old seat of " + villager, log.villager(villager, 2), villager < 5 ? villager : NONE);
            int next = villager < 4 ? villager : villager == 5 ? 4 : NONE;
            due("the new seat of " + villager, log.villager(villager, 3), next);
        }
        log.forge(6);
        due("the drawn one without one", log.villager(5, 3), NONE);
        due("the forged one", log.villager(6, 3), 4);
        due("not in the old council", log.villager(6, 2), NONE);
    }

    private static void villagerSeatIfNoChangeGoesOn() {
        says(VILLAGER, "3 as 2 if no change goes on)");
        VillageLog none = Villages.of(1, 0);
        due("without a council", none.villager(0, 3), NONE);
        VillageLog log = Villages.of(3, 2);
        for (int villager = 0; villager < 3; villager++) {
            due("the seat of " + villager, log.villager(villager, 3), villager < 2 ? villager : NONE);
        }
        log.change(0, 1);
        log.second(1, 0);
        log.second(2, 0);
        due("who left has none", log.villager(1, 2) + log.villager(1, 3), 2 * NONE);
        due("who came in", log.villager(2, 2) * 10 + log.villager(2, 3), 11);
        for (int undone = 0; undone < 3; undone++) {
            log.undo();
        }
        due("who left is back by undo()", log.villager(1, 2) * 10 + log.villager(1, 3), 11);
        due("who came in has none", log.villager(2, 2) + log.villager(2, 3), 2 * NONE);
    }

    private static void villagerHowOftenDrawn() {
        says(VILLAGER, "4 how often the villager was drawn (as it stands now, forged draws included)");
        VillageLog log = Villages.of(3, 1);
        due("never", log.villager(1, 4), 0);
        due("change(0, 0)", log.change(0, 0), 1);
        due("once", log.villager(1, 4), 1);
        due("another one never", log.villager(2, 4), 0);
        log.forge(2);
        due("no longer, by a forged lot", log.villager(1, 4), 0);
        due("once, by a forged lot", log.villager(2, 4), 1);
        log.second(2, 0);
        log.setLot(stateFor(0, 2));
        due("change(2, 0)", log.change(2, 0), 0);
        due("who was founded is drawn once", log.villager(0, 4), 1);

        VillageLog often = Villages.of(2, 1);
        for (int draw = 0; draw < 60; draw++) {
            often.change(draw % 2, 0);
            often.second(1 - draw % 2, draw);
        }
        due("30 times", often.villager(0, 4), 30);
        due("30 times", often.villager(1, 4), 30);
    }

    private static void villagerNoSuchVillagerOrWhat() {
        says(VILLAGER, "INVALID_ARGUMENT if there is no such villager or what is out of range.");
        due("without villagers", new VillageLog().villager(0, 0), BAD);
        VillageLog log = Villages.of(12, 5);
        due("the last villager", log.villager(11, 4), 0);
        due("the villager 12", log.villager(12, 0), BAD);
        due("what is 5", log.villager(0, 5), BAD);
        for (int strange : STRANGE) {
            due("villager(" + strange + ", 0)", log.villager(strange, 0), BAD);
            due("villager(0, " + strange + ")", log.villager(0, strange), BAD);
        }
        VillageLog few = Villages.of(3, 2);
        for (int what = 0; what < 5; what++) {
            due("villager(3, " + what + ")", few.villager(3, what), BAD);
        }
    }

    private static void entryTextNumber() {
        says(ENTRY, "0 its text number (NONE for a change entry)");
        VillageLog log = Villages.of(2, 1);
        log.propose(0, 0);
        log.propose(0, 999);
        log.change(0, 0);
        due("the smallest", log.entry(0, 0), 0);
        due("the greatest", log.entry(1, 0), 999);
        due("a change entry", log.entry(2, 0), NONE);
        Villages.second(log, 1, 0, 2);
        due("a change entry that is agreed", log.entry(2, 0), NONE);
        Villages.propose(log, 1, 57);
        due("the last of 60", log.entry(59, 0), 56);
    }

    private static void entryTerm() {
        says(ENTRY, "1 its term");
        VillageLog log = Villages.of(2, 1);
        for (int entry = 0; entry < 60; entry++) {
            log.change(entry % 2, 0);
            due("the term of " + entry, log.entry(entry, 1), entry);
            log.second(1 - entry % 2, entry);
        }
        due("the term", log.count(3), 60);
        due("that of the first entry", log.entry(0, 1), 0);
    }

    private static void entryAgreed() {
        says(ENTRY, "2 1 if it is agreed and 0 if not");
        VillageLog log = Villages.of(2, 2);
        Villages.propose(log, 0, 60);
        due("the first", log.entry(0, 2), 0);
        log.second(1, 0);
        due("the first", log.entry(0, 2), 1);
        due("the second", log.entry(1, 2), 0);
        Villages.second(log, 1, 1, 58);
        due("the last", log.entry(59, 2), 0);
        log.second(1, 59);
        due("the last", log.entry(59, 2), 1);
    }

    private static void entryCopies() {
        says(ENTRY, "3 in how many copies it is");
        VillageLog log = Villages.of(12, 1);
        log.propose(0, 1);
        for (int villager = 1; villager < 12; villager++) {
            due("before " + villager, log.entry(0, 3), villager);
            log.learn(villager);
        }
        due("in all", log.entry(0, 3), 12);
        log.attend(3, 0);
        due("also of one who is away", log.entry(0, 3), 12);
        log.propose(0, 2);
        due("in one", log.entry(1, 3), 1);
    }

    private static void entryProposer() {
        says(ENTRY, "4 who proposed it");
        VillageLog log = Villages.of(6, 5);
        log.propose(4, 1);
        due("the last elder", log.entry(0, 4), 4);
        log.second(0, 0);
        log.change(0, 0);
        due("of a change entry", log.entry(1, 4), 0);
        Villages.second(log, 5, 0, 1);
        log.propose(5, 2);
        due("one of the new council alone", log.entry(2, 4), 5);
        Villages.second(log, 4, 1, 1);
        due("nothing changes it", log.entry(1, 4), 0);
    }

    private static void entryElders() {
        says(ENTRY, "5 how many elders of the old council and 6 of the new one have it");
        VillageLog log = Villages.of(6, 3);
        due("change(0, 2)", log.change(0, 2), 4);
        due("one of the old one", log.entry(0, 5), 1);
        due("one of the new one", log.entry(0, 6), 1);
        log.second(4, 0);
        due("one of the old one", log.entry(0, 5), 1);
        due("two of the new one", log.entry(0, 6), 2);
        log.forge(3);
        due("one of the new one, by a forged lot", log.entry(0, 6), 1);
        due("in two copies all the same", log.entry(0, 3), 2);
        log.second(2, 0);
        due("two of the old one", log.entry(0, 5), 2);
        due("one of the new one", log.entry(0, 6), 1);
        due("in three copies", log.entry(0, 3), 3);
    }

    private static void entryEldersIfNoChangeGoesOn() {
        says(ENTRY, "(6 as 5 if no change goes on)");
        VillageLog log = Villages.of(6, 5);
        log.propose(0, 1);
        for (int elder = 1; elder < 5; elder++) {
            due("old", log.entry(0, 5), elder);
            due("new", log.entry(0, 6), elder);
            log.second(elder, 0);
        }
        log.learn(5);
        due("old", log.entry(0, 5), 5);
        due("new", log.entry(0, 6), 5);
        due("in six copies", log.entry(0, 3), 6);
        log.change(0, 0);
        due("of the new one who has learned", log.entry(0, 6), 5);
        log.undo();
        due("as 5 again", log.entry(0, 6), 5);
    }

    private static void entryNoSuchEntryOrWhat() {
        says(ENTRY, "INVALID_ARGUMENT if there is no such entry or what is out of range.");
        due("an empty log", Villages.of(1, 1).entry(0, 0), BAD);
        VillageLog log = Villages.of(1, 1);
        Villages.propose(log, 0, 60);
        due("the last entry", log.entry(59, 6), 1);
        due("the entry 60", log.entry(60, 0), BAD);
        due("what is 7", log.entry(0, 7), BAD);
        for (int strange : STRANGE) {
            due("entry(" + strange + ", 0)", log.entry(strange, 0), BAD);
            due("entry(0, " + strange + ")", log.entry(0, strange), BAD);
        }
        log.undo();
        for (int what = 0; what < 7; what++) {
            due("entry(59, " + what + ") when it is undone", log.entry(59, what), BAD);
        }
    }

    private static void drawFromTheFirstOne() {
        says(DRAW, "0 for the first one, and so on");
        VillageLog log = Villages.of(4, 2);
        due("no draw", log.draw(0, 0), BAD);
        log.change(0, 1);
        log.second(1, 0);
        log.second(2, 0);
        log.change(2, 0);
        int[][] due = {{1, 2, 2, 0, 1}, {39022, 2, 3, 0, 0}};
        for (int draw = 0; draw < 2; draw++) {
            for (int what = 0; what < 5; what++) {
                due("draw(" + draw + ", " + what + ")", log.draw(draw, what), due[draw][what]);
            }
        }
        due("draw(2, 0)", log.draw(2, 0), BAD);
        log.undo();
        due("draw(1, 0) when it is undone", log.draw(1, 0), BAD);
    }

    private static void drawStaysAsItWasWritten() {
        says(DRAW, "0 the state before it, 1 the number of candidates, 2 the villager as it stands now");
        VillageLog log = Villages.of(10, 1);
        log.setLot(65535);
        int drawn = log.change(0, 0);
        due("the villager", drawn, 1 + 54212 % 9);
        log.come();
        log.come();
        log.setLot(0);
        due("the state before it", log.draw(0, 0), 65535);
        due("the candidates", log.draw(0, 1), 9);
        due("the villager", log.draw(0, 2), drawn);
        log.forge(11);
        due("the villager as it stands now", log.draw(0, 2), 11);
        due("the candidates", log.draw(0, 1), 9);
    }

    private static void drawForged() {
        says(DRAW, "3 1 if it is forged (not the villager who was drawn) and 0 if not, 4 the seat");
        VillageLog log = Villages.of(7, 5);
        due("change(0, 4)", log.change(0, 4), 5);
        due("not forged", log.draw(0, 3), 0);
        log.forge(6);
        due("forged", log.draw(0, 3), 1);
        due("the seat", log.draw(0, 4), 4);
        log.forge(5);
        due("the villager who was drawn", log.draw(0, 3), 0);
        log.forge(6);
        log.undo();
        due("undone", log.draw(0, 3), 0);
    }

    private static void drawNoSuchDrawOrWhat() {
        says(DRAW, "INVALID_ARGUMENT if there is no such draw or what is out of range.");
        due("no draw", Villages.of(2, 1).draw(0, 0), BAD);
        VillageLog log = Villages.of(2, 1);
        log.change(0, 0);
        for (int what = 0; what < 5; what++) {
            due("draw(1, " + what + ")", log.draw(1, what), BAD);
            due("draw(-1, " + what + ")", log.draw(-1, what), BAD);
        }
        due("what is 4", log.draw(0, 4), 0);
        due("what is 5", log.draw(0, 5), BAD);
        for (int strange : STRANGE) {
            due("draw(" + strange + ", 0)", log.draw(strange, 0), BAD);
            due("draw(0, " + strange + ")", log.draw(0, strange), BAD);
        }
    }
}
