/** All that can be seen of an object, as a text; to see it all, the object is used up. */
final class Sight {
    private Sight() { }

    static String of(LureTown x) {
        StringBuilder seen = new StringBuilder();
        seeAll(x, seen);
        for (int i = 0; i < 21; i++) {
            int left = x.undo();
            seen.append(" undo ").append(left);
            if (left < 0) {
                break;
            }
            seeThings(x, seen);
        }
        for (int k = 0; k < 4; k++) {
            int step = x.back(k);
            seen.append(" back ").append(step);
            if (step >= 0) {
                seeAll(x, seen);
            }
        }
        seeRules(x, seen);
        // what stands on the tape shows by where its faults are; a town's fault leaves it to be read as a rule
        return seen.append(" tape ").append(x.town()).append(' ').append(x.rule()).toString();
    }

    private static void seeAll(LureTown x, StringBuilder seen) {
        seen.append(" counts");
        for (int what = 0; what <= 13; what++) {
            seen.append(' ').append(x.count(what));
        }
        seen.append(" ways");
        for (int c = 0; c < x.count(0); c++) {
            seen.append(' ').append(x.ways(c));
        }
        seeThings(x, seen);
        seen.append(" notes ").append(x.ruled(0)).append(' ').append(x.ruled(1));
        for (int w = 0; w < x.count(3); w++) {
            seen.append(' ').append(x.hearts(w)).append(' ').append(x.far(w));
        }
        seen.append(" nights ").append(x.nights(2, 3, 50, 0));
    }

    private static void seeThings(LureTown x, StringBuilder seen) {
        for (int i = 0; i < x.count(2); i++) {
            seen.append(" lure");
            for (int what = 0; what < 5; what++) {
                seen.append(' ').append(x.lure(i, what));
            }
        }
        for (int i = 0; i < x.count(3); i++) {
            seen.append(" walker");
            for (int what = 0; what < 5; what++) {
                seen.append(' ').append(x.walker(i, what));
            }
        }
        seen.append(" step ").append(x.count(6));
    }

    private static void seeRules(LureTown x, StringBuilder seen) {
        for (int r = -1; r < 6; r++) {
            seen.append(" rule ").append(x.force(r));
            for (int w = 0; w < x.count(3); w++) {
                seen.append(' ').append(x.ahead(w, 1, 0)).append(' ').append(x.ahead(w, 3, 0));
            }
        }
    }
}
