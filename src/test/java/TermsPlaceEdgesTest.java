/** The edges of Terms: PLACE, ERASED and WORN OUT. */
public final class TermsPlaceEdgesTest {
    private static final String TERMS = "Terms";

    public static void main(String[] args) {
        goesBehindTheLatestSaving();
        goesBehindTheLatestLoading();
        beginsBehindSectorThree();
        goesToTheNextSector();
        goesFromThreeToNought();
        passesOverWornOutSectors();
        isWornOutAtFour();
        erasesFirst();
        erasesOneSectorAlone();
        refusesWhenAllAreWornOut();
        writesOnInAWornOutSector();
        Check.end();
    }

    private static MeterBox saved(int times) {
        MeterBox x = new MeterBox();
        saveOn(x, times);
        return x;
    }

    private static void saveOn(MeterBox x, int times) {
        for (int i = 0; i < times; i++) {
            x.save();
        }
    }

    private static void cycle(MeterBox x) {
        x.power(false);
        x.power(true);
    }

    private static void tear(MeterBox x, int words) {
        x.cut(words);
        Check.refused("torn", ArithmeticException.class, x::save);
        x.power(true);
    }

    private static void wears(MeterBox x, String what, int... due) {
        for (int s = 0; s < 4; s++) {
            Check.due(what + ": WEAR of " + s, x.count(2 + s), due[s]);
        }
    }

    private static void goesBehindTheLatestSaving() {
        Check.sentence(TERMS, "behind the SLOT of the latest SAVING or LOADING");
        MeterBox x = new MeterBox();
        for (int slot = 0; slot < 12; slot++) {
            Check.due("nothing there yet", x.flash(slot, 0), -1);
            x.save();
            Check.due("SLOT " + slot, x.flash(slot, 0), slot + 1);
        }
    }

    private static void goesBehindTheLatestLoading() {
        Check.sentence(TERMS, "behind the SLOT of the latest SAVING or LOADING");
        for (int before = 1; before <= 47; before++) {
            MeterBox x = saved(before);
            cycle(x);
            Check.due("word 0 behind " + before, x.save(), before + 1);
            Check.due("PLACE behind " + before, x.flash(before % 12, 0), before + 1);
            Check.due("WEAR behind " + before, x.count(2 + before / 3 % 4), before / 12 + 1);
        }
        MeterBox y = saved(4);
        tear(y, 1);
        y.save();
        Check.due("the torn SLOT again, not the one behind", y.flash(4, 0), 5);
        Check.due("nothing behind", y.flash(5, 0), -1);
        wears(y, "no erasing for it", 1, 1, 0, 0);
        MeterBox z = saved(3);
        tear(z, 5);
        wears(z, "torn in the first SLOT", 1, 1, 0, 0);
        z.save();
        wears(z, "ERASED again", 1, 2, 0, 0);
        Check.due("the same SLOT", z.flash(3, 0), 4);
    }

    private static void beginsBehindSectorThree() {
        Check.sentence(TERMS, "(without any such SLOT: behind that of SECTOR 3)");
        MeterBox x = saved(1);
        Check.due("the first SLOT of SECTOR 0", x.flash(0, 0), 1);
        wears(x, "ERASED first", 1, 0, 0, 0);
    }

    private static void goesToTheNextSector() {
        Check.sentence(TERMS, "behind the last SLOT of a SECTOR");
        int[] at = {2, 3, 4, 5, 6, 7, 8, 9, 10, 11, 12};
        for (int before : at) {
            MeterBox x = saved(before);
            int sector = before / 3 % 4;
            int wear = x.count(2 + sector);
            x.save();
            Check.due("ERASED behind " + before, x.count(2 + sector) - wear, before % 3 == 0 ? 1 : 0);
        }
    }

    private static void goesFromThreeToNought() {
        Check.sentence(TERMS, "the first one of the next SECTOR, 0 behind 3");
        MeterBox x = saved(12);
        wears(x, "full", 1, 1, 1, 1);
        Check.due("word 0", x.save(), 13);
        Check.due("SLOT 0", x.flash(0, 0), 13);
        wears(x, "SECTOR 0", 2, 1, 1, 1);
        saveOn(x, 2);
        wears(x, "till its end", 2, 1, 1, 1);
        x.save();
        wears(x, "SECTOR 1", 2, 2, 1, 1);
        Check.due("SLOT 3", x.flash(3, 0), 16);
    }

    private static void passesOverWornOutSectors() {
        Check.sentence(TERMS, "that is not WORN OUT (WEAR 4 or more)");
        MeterBox x = new MeterBox();
        for (int i = 0; i < 4; i++) {
            tear(x, 0);
        }
        wears(x, "SECTOR 0 WORN OUT", 4, 0, 0, 0);
        saveOn(x, 3);
        Check.due("SECTOR 1 instead", x.flash(3, 0), 1);
        for (int i = 0; i < 4; i++) {
            tear(x, 0);
        }
        wears(x, "SECTOR 2 WORN OUT", 4, 1, 4, 0);
        saveOn(x, 1);
        Check.due("SECTOR 3 behind 1", x.flash(9, 0), 4);
        saveOn(x, 3);
        Check.due("SECTOR 1 behind 3", x.flash(3, 0), 7);
        wears(x, "over both", 4, 2, 4, 1);
        Check.due("nothing in SECTOR 0", x.flash(0, 0), -1);
        Check.due("nothing in SECTOR 2", x.flash(6, 0), -1);
    }

    private static void isWornOutAtFour() {
        Check.sentence(TERMS, "that is not WORN OUT (WEAR 4 or more)");
        MeterBox x = saved(36);
        wears(x, "three times round", 3, 3, 3, 3);
        Check.due("WEAR 3 is not WORN OUT", x.save(), 37);
        wears(x, "the fourth erasing", 4, 3, 3, 3);
        saveOn(x, 11);
        wears(x, "all", 4, 4, 4, 4);
        Look.refused("WEAR 4 is", UnsupportedOperationException.class, () -> saved(48), MeterBox::save);
    }

    private static void erasesFirst() {
        Check.sentence(TERMS, "which is ERASED first: its WORDS are -1, WEAR rises by 1");
        MeterBox x = saved(12);
        tear(x, 0);
        for (int i = 0; i < 18; i++) {
            Check.due("word " + i % 6 + " of " + i / 6, x.flash(i / 6, i % 6), -1);
        }
        wears(x, "ERASED", 2, 1, 1, 1);
        MeterBox y = saved(13);
        for (int i = 6; i < 18; i++) {
            Check.due("word " + i % 6 + " of " + i / 6, y.flash(i / 6, i % 6), -1);
        }
        Check.due("written then", y.flash(0, 0), 13);
    }

    private static void erasesOneSectorAlone() {
        Check.sentence(TERMS, "which is ERASED first: its WORDS are -1, WEAR rises by 1");
        for (int sector = 0; sector < 4; sector++) {
            MeterBox x = saved(12 + 3 * sector + 1);
            for (int slot = 0; slot < 12; slot++) {
                int due = slot / 3 < sector ? 13 + slot : slot + 1;
                if (slot / 3 == sector) {
                    due = slot % 3 == 0 ? 13 + slot : -1;
                }
                Check.due("SECTOR " + sector + " ERASED: SLOT " + slot, x.flash(slot, 0), due);
            }
        }
        Check.sentence(TERMS, "behind the SLOT of the latest SAVING or LOADING");
        Look.changes("no erasing within a SECTOR", () -> saved(13), MeterBox::save,
            "flash(1, 0) = 14", "flash(1, 1) = 5000", "flash(1, 2) = 0", "flash(1, 3) = 0", "flash(1, 4) = 0",
            "flash(1, 5) = " + (14 * 7 + 5000 * 11 + 1));
    }

    private static void refusesWhenAllAreWornOut() {
        Check.sentence(TERMS, "all four WORN OUT: UnsupportedOperationException");
        Look.refused("all", UnsupportedOperationException.class, Rich::worn, MeterBox::save);
        MeterBox x = saved(36);
        tear(x, 0);
        saveOn(x, 3);
        tear(x, 0);
        wears(x, "SECTORS 0 and 2 by tearing", 4, 4, 4, 3);
        saveOn(x, 3);
        Check.due("SECTOR 3 is left", x.flash(11, 0), 42);
        Check.refused("none is left", UnsupportedOperationException.class, x::save);
        MeterBox y = new MeterBox();
        for (int i = 0; i < 15; i++) {
            tear(y, 0);
        }
        wears(y, "three of four", 4, 4, 4, 3);
        Check.due("SECTOR 3 is left", y.save(), 1);
        Check.due("its first SLOT", y.flash(9, 0), 1);
        saveOn(y, 2);
        wears(y, "all four", 4, 4, 4, 4);
        Check.refused("behind its last SLOT", UnsupportedOperationException.class, y::save);
        MeterBox z = new MeterBox();
        for (int i = 0; i < 16; i++) {
            tear(z, 0);
        }
        Check.refused("without any SLOT", UnsupportedOperationException.class, z::save);
        Check.due("still ON", z.count(0), 1);
    }

    private static void writesOnInAWornOutSector() {
        Check.sentence(TERMS, "behind the SLOT of the latest SAVING or LOADING");
        MeterBox x = saved(46);
        wears(x, "all WORN OUT", 4, 4, 4, 4);
        Check.due("the second SLOT", x.save(), 47);
        Check.due("the third SLOT", x.save(), 48);
        Check.due("SLOT 11", x.flash(11, 0), 48);
        Check.refused("behind it", UnsupportedOperationException.class, x::save);
        cycle(x);
        Check.refused("after LOADING too", UnsupportedOperationException.class, x::save);
    }
}
