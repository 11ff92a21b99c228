/** All that an object shows, as a text. Reading the sheets changes fault(), so that one is read first. */
final class Sight {
    private Sight() {
    }

    static String of(RainAccount r) {
        StringBuilder seen = new StringBuilder();
        seen.append("fault ").append(r.fault()).append(", trace ").append(r.trace()).append(", many");
        for (int what = 0; what < 6; what++) {
            seen.append(' ').append(r.many(what));
        }
        seen.append('\n');
        fields(r, seen);
        clouds(r, seen);
        shots(r, seen);
        for (int k = 0; k < 4; k++) {
            seen.append("sheet ").append(k);
            cells(r, k, seen);
            seen.append('\n');
        }
        return seen.toString();
    }

    /** As it shows now, but with another fault. */
    static String withFault(String sight, int fault) {
        return "fault " + fault + sight.substring(sight.indexOf(','));
    }

    private static void fields(RainAccount r, StringBuilder seen) {
        for (int f = 0; f < r.many(0); f++) {
            seen.append("field");
            for (int what = 0; what < 3; what++) {
                seen.append(' ').append(r.ofField(f, what));
            }
            seen.append(" got ").append(r.fell(f, 11, 0)).append(" hail ").append(r.fell(f, 11, 1)).append('\n');
        }
    }

    private static void clouds(RainAccount r, StringBuilder seen) {
        for (int c = 0; c < r.many(1); c++) {
            seen.append("cloud");
            for (int what = 0; what < 3; what++) {
                seen.append(' ').append(r.ofCloud(c, 0, what));
            }
            seen.append('\n');
        }
    }

    private static void shots(RainAccount r, StringBuilder seen) {
        for (int s = 0; s < r.many(2); s++) {
            seen.append("shot");
            for (int what = 0; what < 4; what++) {
                seen.append(' ').append(r.ofShot(s, what));
            }
            seen.append('\n');
        }
    }

    private static void cells(RainAccount r, int k, StringBuilder seen) {
        int sort = 0;
        while (sort < 3 && faultOf(r, k, 0, sort) == 2) {
            sort++;
        }
        if (faultOf(r, k, 0, sort) == 1) {
            seen.append(" has nothing");
            return;
        }
        seen.append(" of sort ").append(sort).append(':');
        for (int i = 0; i < 41; i++) {
            long v = r.cell(k, i, sort);
            if (v == RainAccount.LOST) {
                return;
            }
            seen.append(' ').append(v);
        }
    }

    private static int faultOf(RainAccount r, int k, int i, int sort) {
        r.cell(k, i, sort);
        return r.fault();
    }
}
