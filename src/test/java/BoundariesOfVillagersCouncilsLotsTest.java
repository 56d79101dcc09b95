/** The boundary cases that stand under "What it is", "Villagers", "Councils" and "Lots". */
public final class BoundariesOfVillagersCouncilsLotsTest extends Boundaries {
    public static void main(String[] args) {
        atMost512Calls();
        atMost512RefusedCalls();
        atMost512CallsThereAndBack();
        atMost12Villagers();
        presentAtFirstOrAway();
        copyEmptyAtFirst();
        oneToFiveElders();
        councilEmptyAndTerm0AtFirst();
        majorityIsMoreThanHalf();
        changeReplacesTheElderOnOneSeat();
        councilsDifferInThatSeatAlone();
        changeEndsAsSoonAsItsEntryIsAgreed();
        thenTheCouncilIsTheNewOneAndTheTermGreater();
        lotHas65536States();
        lotWrapsAround();
        candidatesByTheirNumbers();
        theOneAtThePlaceOfTheDraw();
        everyDrawIsWrittenDown();
        forgedAsLongAsTheChangeGoesOn();
        forgedIsAgreedAtOnce();
        end("BoundariesOfVillagersCouncilsLotsTest");
    }

    private static void atMost512Calls() {
        says("What it is", "An object is used for at most 512 calls after it has been made");
        VillageLog log = new VillageLog();
        for (int call = 1; call <= 512; call++) {
            due("call " + call + ", setLot(" + call + ")", log.setLot(call), Math.max(1, call - 1));
        }
    }

    private static void atMost512RefusedCalls() {
        says("What it is", "An object is used for at most 512 calls after it has been made");
        VillageLog log = new VillageLog();
        for (int call = 1; call < 512; call++) {
            due("call " + call + ", undo()", log.undo(), ILLEGAL);
        }
        due("call 512, come()", log.come(), 0);
    }

    private static void atMost512CallsThereAndBack() {
        says("What it is", "An object is used for at most 512 calls after it has been made");
        VillageLog log = new VillageLog();
        for (int call = 1; call < 512; call += 2) {
            due("call " + call + ", come()", log.come(), 0);
            due("call " + (call + 1) + ", undo()", log.undo(), 0);
        }
    }

    private static void atMost12Villagers() {
        says("Villagers", "There are at most 12 villagers, numbered from 0 in the order in which they came.");
        VillageLog log = new VillageLog();
        due("the number 0 before one came", log.villager(0, 0), BAD);
        for (int villager = 0; villager < 12; villager++) {
            due("come()", log.come(), villager);
            due("the last number", log.villager(villager, 0), 1);
            due("the number behind it", log.villager(villager + 1, 0), BAD);
        }
        due("a 13th", log.come(), FULL);
        due("villagers", log.count(0), 12);
        due("the number 12", log.villager(12, 0), BAD);
        due("the number -1", log.villager(-1, 0), BAD);
    }

    private static void presentAtFirstOrAway() {
        says("Villagers", "A villager is present (at first) or away.");
        VillageLog log = new VillageLog();
        for (int villager = 0; villager < 12; villager++) {
            log.come();
            due("at first " + villager, log.villager(villager, 0), 1);
            log.attend(villager, 0);
            due("away " + villager, log.villager(villager, 0), 0);
        }
        due("nobody is present", log.count(1), 0);
        for (int villager = 0; villager < 12; villager++) {
            log.attend(villager, 1);
            due("back " + villager, log.villager(villager, 0), 1);
        }
        due("all are present", log.count(1), 12);
    }

    private static void copyEmptyAtFirst() {
        says("Villagers", "a row of entries from the first one on, empty at first.");
        VillageLog log = Villages.of(3, 2);
        due("at first", log.villager(0, 1) + log.villager(1, 1) + log.villager(2, 1), 0);
        Villages.propose(log, 0, 3);
        due("second(1, 2) without the first ones", log.second(1, 2), ILLEGAL);
        due("second(1, 1) without the first one", log.second(1, 1), ILLEGAL);
        Villages.second(log, 1, 0, 2);
        due("who comes to three agreed entries", log.come(), 3);
        due("has an empty copy", log.villager(3, 1), 0);
        due("entry(0, 3) is in two copies", log.entry(0, 3), 2);
    }

    private static void oneToFiveElders() {
        says("Councils", "A council is a row of 1 to 5 different villagers, its elders, on seats numbered from 0.");
        due("a council of 0", Villages.of(12, 0).found(0), BAD);
        due("a council of 6", Villages.of(12, 0).found(6), BAD);
        for (int size = 1; size <= 5; size++) {
            VillageLog log = Villages.of(12, size);
            due("size", log.count(2), size);
            for (int seat = 0; seat < size; seat++) {
                due("the seat " + seat, log.elder(0, seat), seat);
            }
            due("no seat behind the last one", log.elder(0, size), BAD);
            due("no seat before the first one", log.elder(0, -1), BAD);
        }
        VillageLog log = Villages.of(6, 5);
        due("the only one who is different", log.change(0, 0), 5);
        for (int elder = 0; elder < 6; elder++) {
            due("no elder can come in a second time", log.forge(elder), ILLEGAL);
        }
    }

    private static void councilEmptyAndTerm0AtFirst() {
        says("Councils", "The village has a council, empty at first until it is set, and a term, which is a number, 0 at first.");
        VillageLog log = Villages.of(5, 0);
        due("the size", log.count(2), 0);
        due("no seat", log.elder(0, 0), BAD);
        due("the term", log.count(3), 0);
        due("nobody has a seat", log.villager(0, 2), NONE);
        due("nobody proposes", log.propose(0, 0), ILLEGAL);
        log.found(5);
        due("the size when it is set", log.count(2), 5);
        due("the term when it is set", log.count(3), 0);
    }

    private static void majorityIsMoreThanHalf() {
        says("Councils", "A majority of a council is more than half of its elders.");
        for (int size = 1; size <= 5; size++) {
            VillageLog log = Villages.of(size, size);
            log.propose(0, 1);
            for (int having = 1; having <= size; having++) {
                if (having > 1) {
                    log.second(having - 1, 0);
                }
                due(having + " of " + size, log.entry(0, 2), 2 * having > size ? 1 : 0);
            }
        }
    }

    private static void changeReplacesTheElderOnOneSeat() {
        says("Councils", "A change of the council replaces the elder on one seat by another villager, who is drawn by lot.");
        for (int seat = 0; seat < 5; seat++) {
            VillageLog log = Villages.of(6, 5);
            due("the only other villager", log.change(4, seat), 5);
            due("is on the seat " + seat, log.elder(1, seat), 5);
            due("the elder of it is on none", log.villager(seat, 3), NONE);
        }
        due("nobody else", Villages.of(5, 5).change(4, 0), ILLEGAL);
    }

    private static void councilsDifferInThatSeatAlone() {
        says("Councils", "the old council and the new one, which differ in that seat alone.");
        for (int size = 1; size <= 5; size++) {
            for (int changed = 0; changed < size; changed++) {
                VillageLog log = Villages.of(12, size);
                int drawn = log.change(0, changed);
                for (int seat = 0; seat < size; seat++) {
                    due("old seat " + seat, log.elder(0, seat), seat);
                    due("new seat " + seat, log.elder(1, seat), seat == changed ? drawn : seat);
                }
                due("no new seat behind the last one", log.elder(1, size), BAD);
            }
        }
    }

    private static void changeEndsAsSoonAsItsEntryIsAgreed() {
        says("Councils", "The change ends as soon as a change entry is agreed");
        for (int size = 1; size <= 5; size++) {
            VillageLog log = Villages.of(size + 1, size);
            log.change(0, size - 1);
            for (int elder = 1; elder < MAJORITY[size]; elder++) {
                log.second(elder, 0);
                int ofTheNewOne = Math.min(elder + 1, size - 1);
                due(ofTheNewOne + " of the new council of " + size, log.count(6), ofTheNewOne >= MAJORITY[size] ? 0 : 1);
            }
            if (log.count(6) == 1) {
                due("the last one who is wanted", log.second(size, 0), 1);
            }
            due("the change is over", log.count(6), 0);
            due("its entry is agreed", log.entry(0, 2), 1);
        }
    }

    private static void thenTheCouncilIsTheNewOneAndTheTermGreater() {
        says("Councils", "then the council is the new one, and the term is greater by 1.");
        VillageLog log = Villages.of(2, 1);
        for (int term = 0; term < 20; term++) {
            int elder = term % 2;
            log.change(elder, 0);
            due("the term while the change goes on", log.count(3), term);
            due("the council while it goes on", log.elder(0, 0), elder);
            log.second(1 - elder, term);
            due("the term", log.count(3), term + 1);
            due("the council", log.elder(0, 0), 1 - elder);
            due("no new council any more", log.elder(1, 0), NONE);
            due("who left is no elder", log.villager(elder, 2), NONE);
        }
    }

    private static void lotHas65536States() {
        says("Lots", "The lot has a state s, 0 to 65535 (at first 1).");
        VillageLog log = Villages.of(2, 1);
        due("at first", log.count(7), 1);
        due("-1", log.setLot(-1), BAD);
        due("65536", log.setLot(65536), BAD);
        due("0", log.setLot(0), 1);
        due("it is 0", log.count(7), 0);
        due("65535", log.setLot(65535), 0);
        due("it is 65535", log.count(7), 65535);
    }

    private static void lotWrapsAround() {
        says("Lots", "s becomes (s * 25173 + 13849) modulo 65536, and the draw is s modulo n.");
        int[] states = {0, 1, 2, 32767, 32768, 65534, 65535, stateBefore(0), stateBefore(1), stateBefore(65535)};
        due("from 0", after(0), 13849);
        due("from 65535", after(65535), 54212);
        for (int state : states) {
            for (int candidates = 1; candidates <= 11; candidates++) {
                VillageLog log = Villages.of(candidates + 1, 1);
                log.setLot(state);
                due("the draw of " + candidates + " from " + state, log.change(0, 0), 1 + after(state) % candidates);
                due("the state after " + state, log.count(7), after(state));
            }
        }
    }

    private static void candidatesByTheirNumbers() {
        says("Lots", "The candidates for a seat are all villagers who are not in the council, by their numbers");
        VillageLog log = Villages.of(6, 3);
        due("change(0, 1)", log.change(0, 1), 4);
        log.second(2, 0);
        log.attend(3, 0);
        int[] candidates = {1, 3, 5};
        for (int place = 0; place < 3; place++) {
            log.setLot(stateFor(place, 3));
            for (int seat = 0; seat < 3; seat++) {
                due("the place " + place + " for the seat " + seat, log.nextDrawn(seat), candidates[place]);
            }
        }
        log.come();
        log.setLot(stateFor(3, 4));
        due("who came last is the last candidate", log.change(2, 2), 6);
        due("of four", log.draw(1, 1), 4);
    }

    private static void theOneAtThePlaceOfTheDraw() {
        says("Lots", "the one at the place of the draw is drawn.");
        for (int candidates = 1; candidates <= 11; candidates++) {
            int[] places = {0, candidates / 2, candidates - 1};
            for (int place : places) {
                VillageLog log = Villages.of(candidates + 1, 1);
                log.setLot(stateFor(place, candidates));
                due("the place " + place + " of " + candidates, log.change(0, 0), 1 + place);
            }
        }
    }

    /** As many draws as the log has room for. */
    private static void everyDrawIsWrittenDown() {
        says("Lots", "Every draw is written down with the state before it, the number of candidates, and the villager.");
        VillageLog log = Villages.of(2, 1);
        for (int draw = 0; draw < 60; draw++) {
            due("the draw " + draw, log.change(draw % 2, 0), 1 - draw % 2);
            due("the change is agreed", log.second(1 - draw % 2, draw), 1);
        }
        due("no room for another", log.change(0, 0), FULL);
        due("draws", log.count(8), 60);
        int state = 1;
        for (int draw = 0; draw < 60; draw++) {
            due("the state before " + draw, log.draw(draw, 0), state);
            due("the candidates of " + draw, log.draw(draw, 1), 1);
            due("the villager of " + draw, log.draw(draw, 2), 1 - draw % 2);
            state = after(state);
        }
        due("the state at last", log.count(7), state);
        due("no draw behind the last one", log.draw(60, 0), BAD);
    }

    private static void forgedAsLongAsTheChangeGoesOn() {
        says("Lots", "in place of the last drawn one, as long as its change goes on");
        VillageLog log = Villages.of(5, 2);
        due("before a change", log.forge(2), ILLEGAL);
        due("the first draw", log.change(0, 0), 3);
        due("while it goes on", log.forge(2), 3);
        due("it can be told", log.draw(0, 3), 1);
        log.second(1, 0);
        due("the change is agreed", log.second(2, 0), 1);
        due("after the change", log.forge(4), ILLEGAL);
        due("the forged one stays", log.elder(0, 0), 2);
        due("the second draw", log.change(1, 1), 3);
        due("it is not forged", log.draw(1, 3), 0);
        due("while it goes on", log.forge(4), 3);
        due("the last draw is forged", log.draw(1, 2), 4);
        due("the first draw stays", log.draw(0, 2), 2);
        due("both are forged", log.count(9), 2);
        due("the drawn one again", log.forge(3), 4);
        due("one is forged", log.count(9), 1);
    }

    private static void forgedIsAgreedAtOnce() {
        says("Lots", "what can be agreed by it (see below) is agreed at once.");
        VillageLog log = Villages.of(4, 2);
        due("change(0, 0)", log.change(0, 0), 2);
        log.second(2, 0);
        due("forge(3), who has nothing", log.forge(3), 2);
        due("second(1, 0), all of the old council", log.second(1, 0), 0);
        due("nothing is agreed", log.count(5), 0);
        due("forge(2), who has the entry", log.forge(2), 3);
        due("it is agreed", log.count(5), 1);
        due("the change is over", log.count(6), 0);
        due("the council", log.elder(0, 0), 2);
        due("the term", log.count(3), 1);
    }
}
