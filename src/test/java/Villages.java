/** Makes villages for the tests, and writes texts for them. */
final class Villages {
    private Villages() {
    }

    /** A village with so many villagers, and a first council of so many elders (none if 0). */
    static VillageLog of(int villagers, int elders) {
        VillageLog log = new VillageLog();
        for (int villager = 0; villager < villagers; villager++) {
            log.come();
        }
        if (elders > 0) {
            log.found(elders);
        }
        return log;
    }

    static void write(VillageLog log, String text) {
        for (int place = 0; place < text.length(); place++) {
            log.append(text.charAt(place));
        }
    }

    /** Puts the text in place of the one before, and runs it. */
    static int run(VillageLog log, String text) {
        log.clearText();
        write(log, text);
        return log.run();
    }

    /** Lets an elder propose so many entries. */
    static void propose(VillageLog log, int elder, int entries) {
        for (int entry = 0; entry < entries; entry++) {
            log.propose(elder, entry);
        }
    }

    /** Lets an elder second the entries from one up to another. */
    static void second(VillageLog log, int elder, int from, int to) {
        for (int entry = from; entry <= to; entry++) {
            log.second(elder, entry);
        }
    }

    /** All that can be seen, with the lengths of the text and of the history. */
    static String whole(VillageLog log) {
        return seen(log) + " history " + log.count(10) + " text " + log.count(11);
    }

    /** All that can be seen, but for the text and the history. */
    static String seen(VillageLog log) {
        StringBuilder all = new StringBuilder();
        for (int what = 0; what < 10; what++) {
            all.append(log.count(what)).append(' ');
        }
        for (int seat = 0; seat < 5; seat++) {
            all.append(log.elder(0, seat)).append('/').append(log.elder(1, seat)).append(' ');
        }
        for (int villager = 0; villager < log.count(0); villager++) {
            for (int what = 0; what < 5; what++) {
                all.append(log.villager(villager, what)).append(',');
            }
        }
        for (int entry = 0; entry < log.count(4); entry++) {
            for (int what = 0; what < 7; what++) {
                all.append(log.entry(entry, what)).append(',');
            }
        }
        for (int draw = 0; draw < log.count(8); draw++) {
            for (int what = 0; what < 5; what++) {
                all.append(log.draw(draw, what)).append(',');
            }
        }
        return all.toString();
    }
}
