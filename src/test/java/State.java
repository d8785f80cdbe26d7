/** All that the calls tell that change nothing. */
final class State {
    private State() {
    }

    static String of(UndoCellar x) {
        StringBuilder all = new StringBuilder();
        all.append("moment ").append(x.moment()).append(", transactions ").append(x.transactions());
        all.append(", marked ").append(x.marked()).append(", records ").append(x.records());
        all.append(", dropped ").append(x.dropped());
        for (int row = 0; row < 12; row++) {
            all.append(", row ").append(row).append(": now ").append(x.now(row)).append(" lock ").append(x.lockOf(row));
            for (int moment = 0; moment <= x.moment(); moment++) {
                all.append(' ').append(x.versionAt(moment, row));
            }
        }
        for (int block = 0; block < 3; block++) {
            for (int slot = 0; slot < 2; slot++) {
                all.append(", slot ").append(block).append('/').append(slot).append(": ").append(x.slotOf(block, slot));
                all.append(' ').append(x.isMarked(block, slot));
            }
        }
        return all.toString();
    }
}
