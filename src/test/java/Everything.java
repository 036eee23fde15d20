/** All that can be seen of an object, to tell whether a call changed anything. Seeing it uses the object up. */
final class Everything {
    private final CountsIfCounted x;
    private final StringBuilder line = new StringBuilder();

    private Everything(CountsIfCounted x) {
        this.x = x;
    }

    static String of(CountsIfCounted x) {
        Everything all = new Everything(x);
        all.country();
        all.sheets();
        all.tape();
        all.image();
        return all.line.toString();
    }

    private void put(String name, long answer) {
        line.append(name).append('=').append(answer).append(' ');
    }

    private void country() {
        line.append(Due.all(x));
        for (int house = 0; house < 8; house++) {
            put("who", x.told(house, 10));
        }
    }

    /** Rows of STEPS are seen by where they lead and rows of SUMS by what is otherwise, then sorts and sizes. */
    private void sheets() {
        for (int sheet = 0; sheet < 4; sheet++) {
            for (int what = 0; what < 4; what++) {
                put("walks", x.walks(sheet, what));
            }
            for (int step = -1; step <= 1; step++) {
                put("tells", x.tells(sheet, 0, step, 0));
            }
        }
        for (int sheet = 0; sheet < 4; sheet++) {
            for (int other = sheet + 1; other < 4; other++) {
                put("sort", x.copy(sheet, 0, other, 0, 0));
            }
            put("size", size(sheet));
        }
    }

    private int size(int sheet) {
        int inside = -1;
        int outside = 64;
        while (outside - inside > 1) {
            int i = (inside + outside) / 2;
            if (x.cell(sheet, i, 0) == 1) {
                inside = i;
            } else {
                outside = i;
            }
        }
        return outside;
    }

    private void tape() {
        int text = x.text();
        put("text", text);
        if (text >= 0) {
            x.force(text);
            country();
        }
    }

    private void image() {
        put("back", x.back());
        country();
    }
}
