/** The document once more, as slowly and as plainly as can be, to hold the class against it. Arguments are in range. */
final class Model {
    final int[] relief = new int[16];
    final int[] surface = new int[16];
    final int[][] cells = new int[16][12];
    final boolean[][] mast = new boolean[16][12];
    int needed = 0;
    int level = 100;
    int count = 0;
    final int[] column = new int[10];
    final int[] row = new int[10];
    final int[] power = new int[10];
    final int[] phase = new int[10];
    final int[] focus = new int[10];
    final int[] from = new int[10];
    final int[] to = new int[10];
    final boolean[] on = new boolean[10];
    final boolean[] failed = new boolean[10];
    final int[] ready = new int[10];
    final int[] bears = {9999, 9999, 9999};
    int wind = 0;
    int curfewFrom = 0;
    int curfewTo = 0;
    final int[] version = new int[4];
    final int[] proposed = {-1, -1, -1, -1};
    long frame = 0;
    long held = 0;
    long breached = 0;
    long energy = 0;
    int minute = 0;

    int setUp(int c, int r, int itsPower, int itsPhase, int itsFocus) {
        int p = count++;
        column[p] = c;
        row[p] = r;
        power[p] = itsPower;
        phase[p] = itsPhase;
        focus[p] = itsFocus;
        from[p] = 99;
        to[p] = 0;
        mast[c][r] = true;
        return p;
    }

    int loadOf(int itsPhase) {
        int sum = 0;
        for (int p = 0; p < count; p++) {
            sum += on[p] && phase[p] == itsPhase ? power[p] : 0;
        }
        return sum;
    }

    int through(int p, int c, int r) {
        if (r <= relief[c] || r >= row[p]) {
            return -1;
        }
        // the column whose distance from the ray is least, the greater one of two alike
        int best = -1;
        long bestMissed = Long.MAX_VALUE;
        int rows = row[p] - relief[c];
        for (int k = 0; k < 16; k++) {
            long missed = Math.abs((long) (k - column[p]) * rows - (long) (c - column[p]) * (row[p] - r));
            if (missed <= bestMissed) {
                bestMissed = missed;
                best = k;
            }
        }
        return best;
    }

    boolean isFree(int p, int c) {
        for (int r = 0; r < 12; r++) {
            int k = through(p, c, r);
            if (k >= 0 && (r < relief[k] || cells[k][r] == 1 || mast[k][r])) {
                return false;
            }
        }
        return true;
    }

    boolean covers(int p, int c) {
        for (int k = from[p]; k <= to[p]; k++) {
            if (k + (wind > 3 ? wind - 3 : 0) == c) {
                return true;
            }
        }
        return false;
    }

    int gives(int p, int c) {
        if (!covers(p, c) || !isFree(p, c)) {
            return 0;
        }
        int a = c - column[p];
        int b = row[p] - relief[c];
        int arrives = 100 * power[p] / (a * a + b * b);
        return arrives * new int[] {60, 40, 0}[surface[c]] / 100;
    }

    boolean isSharp(int p, int c) {
        return Math.abs(row[p] - relief[c] - focus[p]) <= 1;
    }

    int light(int c) {
        int sum = 0;
        for (int p = 0; p < count; p++) {
            sum += on[p] && !failed[p] ? gives(p, c) : 0;
        }
        return sum;
    }

    int blended(int p, int c) {
        if (!on[p] || failed[p]) {
            return 0;
        }
        return light(c) > level ? (int) ((long) gives(p, c) * level / light(c)) : gives(p, c);
    }

    boolean isWell(int c, int set) {
        int sum = 0;
        for (int p = 0; p < count; p++) {
            if ((set & 1 << p) != 0 && !failed[p]) {
                int given = gives(p, c);
                if (given > 0 && !isSharp(p, c)) {
                    return false;
                }
                sum += given;
            }
        }
        return sum >= level;
    }

    int covered(int set) {
        int columns = 0;
        for (int c = 0; c < 16; c++) {
            columns |= isWell(c, set) ? 1 << c : 0;
        }
        return columns;
    }

    boolean isEnough(int set) {
        for (int c = 0; c < 16; c++) {
            if ((needed & 1 << c) != 0 && !isWell(c, set)) {
                return false;
            }
        }
        return true;
    }

    int least() {
        int best = -1;
        for (int set = 0; set < 1 << count; set++) {
            boolean isSound = true;
            for (int p = 0; p < count; p++) {
                isSound &= (set & 1 << p) == 0 || !failed[p];
            }
            if (isSound && (best < 0 || Integer.bitCount(set) < Integer.bitCount(best)) && isEnough(set)) {
                best = set;
            }
        }
        return best;
    }

    boolean bears(int set) {
        boolean all = isEnough(set);
        for (int p = 0; p < count; p++) {
            all &= (set & 1 << p) == 0 || isEnough(set - (1 << p));
        }
        return all;
    }

    int breaches() {
        int sum = 0;
        for (int p = 0; p < count; p++) {
            for (int c = 0; c < 16; c++) {
                boolean meets = false;
                for (int r = 0; r < 12; r++) {
                    int k = through(p, c, r);
                    meets |= k >= 0 && cells[k][r] >= 2;
                }
                sum += meets && on[p] && !failed[p] && covers(p, c) && isFree(p, c) ? 1 : 0;
            }
        }
        return sum;
    }

    int onCount() {
        int sum = 0;
        for (int p = 0; p < count; p++) {
            sum += on[p] ? 1 : 0;
        }
        return sum;
    }

    void passMinute() {
        breached += breaches();
        int ofDay = minute % 1440;
        if (curfewFrom <= ofDay && ofDay < curfewTo) {
            breached += onCount();
        }
        boolean anyLit = false;
        boolean allReady = true;
        for (int p = 0; p < count; p++) {
            energy += on[p] ? power[p] : 0;
            if (on[p] && !failed[p]) {
                anyLit = true;
                allReady &= ready[p] >= frame + 1;
            }
        }
        if (anyLit && allReady) {
            frame++;
        } else {
            held++;
        }
        minute++;
    }
}
