/** Promises 12 to 14. */
public final class TextsTest {
    private static final Checks CHECKS = new Checks();
    private static final int BAD = VillageLog.INVALID_ARGUMENT;
    private static final int FULL = VillageLog.CAPACITY_EXCEEDED;

    public static void main(String[] args) {
        promise12();
        promise13();
        promise14();
        promise14EachCommand();
        promise14Signs();
        promise14EveryCharacter();
        promise14FailedCommands();
        promise14NothingStays();
        promise14IsOneAction();
        promise14LongTexts();
        CHECKS.end("TextsTest");
    }

    private static void due(String call, long got, long want) {
        CHECKS.due(call, got, want);
    }

    private static void promise12() {
        VillageLog log = new VillageLog();
        due("12: append(0)", log.append(0), BAD);
        due("12: append(256)", log.append(256), BAD);
        due("12: append(-1)", log.append(-1), BAD);
        due("12: append(MIN)", log.append(Integer.MIN_VALUE), BAD);
        due("12: append(MAX)", log.append(Integer.MAX_VALUE), BAD);
        due("12: append(65536 + 'p')", log.append(65536 + 'p'), BAD);
        due("12: append(1)", log.append(1), 1);
        due("12: append(255)", log.append(255), 2);
        due("12: no action", log.count(10), 0);
        for (int length = 3; length <= 60; length++) {
            due("12: append('p')", log.append('p'), length);
        }
        due("12: no room", log.append('p'), FULL);
        due("12: no room, but no character first", log.append(0), BAD);
        due("12: no room, but no character first", log.append(256), BAD);
        due("12: the length", log.count(11), 60);
    }

    private static void promise13() {
        VillageLog log = Villages.of(1, 1);
        due("13: clearText() of nothing", log.clearText(), 0);
        Villages.write(log, "p0:1;");
        due("13: the length", log.count(11), 5);
        due("13: clearText()", log.clearText(), 5);
        due("13: the length", log.count(11), 0);
        due("13: clearText()", log.clearText(), 0);
        due("13: no action", log.count(10), 2);
        due("13: nothing is run", log.run(), 0);
        due("13: entries", log.count(4), 0);
        due("13: the first sign of a new one", log.append('x'), 1);
        due("13: it fails there", log.run(), -1000);
    }

    private static void promise14() {
        VillageLog log = Villages.of(4, 3);
        due("14: run", Villages.run(log, "p0:7;s1:0;l3;g2;b2;p1:999;"), 6);
        due("14: the text is empty", log.count(11), 0);
        due("14: entries", log.count(4), 2);
        due("14: agreed", log.count(5), 1);
        due("14: the texts", log.entry(0, 0) * 1000 + log.entry(1, 0), 7999);
        due("14: learned", log.villager(3, 1), 1);
        due("14: without commands", log.run(), 0);
        due("14: on a new object", new VillageLog().run(), 0);
    }

    private static void promise14EachCommand() {
        VillageLog log = Villages.of(12, 5);
        due("14: p4:10;", Villages.run(log, "p4:10;"), 1);
        due("14: the number", log.entry(0, 0), 10);
        due("14: by whom", log.entry(0, 4), 4);
        due("14: s3:0;s2:0;", Villages.run(log, "s3:0;s2:0;"), 2);
        due("14: agreed", log.count(5), 1);
        due("14: l11;", Villages.run(log, "l11;"), 1);
        due("14: learned", log.villager(11, 1), 1);
        due("14: g10;", Villages.run(log, "g10;"), 1);
        due("14: away", log.villager(10, 0), 0);
        due("14: b10;", Villages.run(log, "b10;"), 1);
        due("14: back", log.villager(10, 0), 1);
        due("14: p4:0;", Villages.run(log, "p4:0;"), 1);
        due("14: the number", log.entry(1, 0), 0);
        due("14: p4:100;", Villages.run(log, "p4:100;"), 1);
        due("14: the number", log.entry(2, 0), 100);
    }

    private static void fails(String text, int place) {
        VillageLog log = Villages.of(3, 2);
        String before = Villages.seen(log);
        due("14: " + text, Villages.run(log, text), -1000 - place);
        CHECKS.holds("14: nothing stays of " + text, before.equals(Villages.seen(log)));
        due("14: the text is kept: " + text, log.count(11), text.length());
        due("14: the history is kept: " + text, log.count(10), 4);
        due("14: again " + text, log.run(), -1000 - place);
    }

    private static void promise14Signs() {
        fails("p", 1);
        fails("p0", 2);
        fails("p0:", 3);
        fails("p0:1", 4);
        fails("p0:12", 5);
        fails("p0:123", 6);
        fails("p0:1234", 6);
        fails("p0:1234;", 6);
        fails("p0:0", 4);
        fails("p0:00;", 4);
        fails("p0:01;", 4);
        fails("p00:1;", 2);
        fails("p01:1;", 2);
        fails("p0;", 2);
        fails("p:1;", 1);
        fails("p0::", 3);
        fails("p0:;", 3);
        fails("p0:1:", 4);
        fails("p0:-1;", 3);
        fails("p0 :1;", 2);
        fails("s", 1);
        fails("s0;", 2);
        fails("l", 1);
        fails("l0", 2);
        fails("l;", 1);
        fails("l:", 1);
        fails("l0:", 2);
        fails("l0:0;", 2);
        fails("l1000;", 4);
        fails("l1000", 4);
        fails("g0:1;", 2);
        fails("b", 1);
        fails("b0 ;", 2);
        fails(";", 0);
        fails(" ", 0);
        fails("0", 0);
        fails("P0:1;", 0);
        fails("l0;;", 3);
        fails("l0; ", 3);
        fails("l0;x", 3);
        fails("l0;l", 4);
        fails("l0;p0:1;l1;q", 11);
    }

    private static void promise14EveryCharacter() {
        for (int sign = 1; sign < 256; sign++) {
            VillageLog log = Villages.of(2, 1);
            log.append(sign);
            boolean letter = "pslgb".indexOf(sign) >= 0;
            due("14: the sign " + sign, log.run(), letter ? -1001 : -1000);
            log.clearText();
            Villages.write(log, "l0");
            log.append(sign);
            boolean digit = sign >= '0' && sign <= '9';
            due("14: l0 and the sign " + sign, log.run(), sign == ';' ? 1 : -1002);
            log.clearText();
            Villages.write(log, "p1");
            log.append(sign);
            due("14: p1 and the sign " + sign, log.run(), digit || sign == ':' ? -1003 : -1002);
            log.clearText();
            Villages.write(log, "p0:2");
            log.append(sign);
            due("14: p0:2 and the sign " + sign, log.run(), sign == ';' ? 1 : digit ? -1005 : -1004);
        }
    }

    private static void promise14FailedCommands() {
        fails("p2:1;", 0);
        fails("p3:1;", 0);
        fails("p999:1;", 0);
        fails("s0:0;", 0);
        fails("l3;", 0);
        fails("g3;", 0);
        fails("b0;", 0);
        fails("g0;g0;", 3);
        fails("g0;l0;", 3);
        fails("g0;p0:1;", 3);
        fails("p0:1;s1:1;", 5);
        fails("p0:1;s0:0;", 5);
        fails("p0:1;s1:0;s1:0;x", 10);
        fails("l0;b0;x", 3);
        fails("l0;b0", 5);
        fails("p0:1;p2:1:", 9);
    }

    private static void promise14NothingStays() {
        VillageLog log = Villages.of(4, 2);
        due("14: change(0, 0)", log.change(0, 0), 2);
        String before = Villages.seen(log);
        due("14: a change is agreed, then it fails", Villages.run(log, "s2:0;s1:0;p2:5;s1:1;g0;p0:6;"), -1023);
        CHECKS.holds("14: nothing stays", before.equals(Villages.seen(log)));
        due("14: the change goes on", log.count(6), 1);
        due("14: the text is kept", log.count(11), 28);
        due("14: undo()", log.undo(), 4);
        due("14: the text is kept", log.count(11), 28);
        due("14: another state, another place", log.run(), -1000);
        log.change(0, 0);
        log.come();
        due("14: the same text again", log.run(), -1023);
        due("14: the history", log.count(10), 5);
    }

    private static void promise14IsOneAction() {
        VillageLog log = Villages.of(2, 1);
        due("14: the history", log.count(10), 3);
        due("14: run", Villages.run(log, "p0:1;p0:2;p0:3;l1;g1;"), 5);
        due("14: the history", log.count(10), 4);
        due("14: without commands", log.run(), 0);
        due("14: the history", log.count(10), 5);
        due("14: undo()", log.undo(), 4);
        due("14: entries", log.count(4), 3);
        due("14: undo()", log.undo(), 3);
        due("14: entries", log.count(4), 0);
        due("14: present", log.count(1), 2);
        due("14: failing", Villages.run(log, "p0:1;p1:2;"), -1005);
        due("14: the history", log.count(10), 3);
        due("14: undo()", log.undo(), 2);
        due("14: no council", log.count(2), 0);
    }

    private static void promise14LongTexts() {
        VillageLog log = Villages.of(2, 1);
        StringBuilder text = new StringBuilder();
        for (int command = 0; command < 20; command++) {
            text.append("l1;");
        }
        due("14: twenty commands", Villages.run(log, text.toString()), 20);
        for (int round = 0; round < 5; round++) {
            due("14: twelve entries", Villages.run(log, "p0:1;p0:1;p0:1;p0:1;p0:1;p0:1;p0:1;p0:1;p0:1;p0:1;p0:1;p0:1;"), 12);
        }
        due("14: no room", Villages.run(log, "l0;p0:1;"), -1003);
        due("14: sixty characters without an end", Villages.run(log, text.substring(0, 58) + "12"), -1060);
    }
}
