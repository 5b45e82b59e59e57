/** All that a keeper tells of itself without being changed, but what was refused. */
final class Snapshot {
    private Snapshot() {
    }

    static String of(SameKeeper x) {
        StringBuilder all = new StringBuilder();
        all.append(x.fault(0)).append(' ').append(x.fault(1));
        for (int what = 0; what <= 6; what++) {
            all.append(' ').append(x.has(what));
        }
        for (int d = 0; d < x.has(0); d++) {
            all.append(" |").append(x.day(d, 0)).append(' ').append(x.day(d, 1)).append(' ').append(x.day(d, 2));
        }
        for (int k = 0; k < x.has(4); k++) {
            all.append(" k").append(x.kept(k, 0)).append(' ').append(x.kept(k, 1)).append(' ').append(x.kept(k, 2));
        }
        all.append(" w").append(x.weeks()).append(" h").append(x.heard()).append(" p").append(x.pay()).append(" o");
        for (int k = 0; x.octet(k) >= 0; k++) {
            all.append(' ').append(x.octet(k));
        }
        return all.toString();
    }

    static String refusals(SameKeeper x) {
        StringBuilder all = new StringBuilder();
        for (int what = 0; what <= 5; what++) {
            all.append(what == 0 ? "" : " ").append(x.status(what));
        }
        return all.toString();
    }
}
