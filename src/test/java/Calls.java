/** A call of SurgeBasin by its name. */
final class Calls {
    private Calls() { }

    static long call(SurgeBasin x, String name, int[] a) {
        switch (name) {
            case "row": return x.row(a[0], a[1]);
            case "lay": return x.lay(a[0], a[1], a[2]);
            case "at": return x.at(a[0], a[1]);
            case "tear": return x.tear(a[0]);
            case "copy": return x.copy(a[0], a[1], a[2], a[3], a[4]);
            case "mean": return x.mean(a[0]);
            case "text": return x.text(a[0], a[1]);
            case "put": return x.put(a[0], a[1], a[2]);
            case "fault": return x.fault(a[0], a[1] != 0);
            case "harbour": return x.harbour(a[0], a[1]);
            case "sea": return x.sea(a[0], a[1]);
            case "about": return x.about(a[0], a[1]);
            case "set": return x.set(a[0], a[1]);
            case "ship": return x.ship(a[0], a[1], a[2], a[3], a[4], a[5]);
            case "leave": return x.leave(a[0]);
            case "night": return x.night(a[0], a[1]);
            case "go": return x.go(a[0]);
            case "cell": return x.cell(a[0], a[1]);
            case "rides": return x.rides(a[0], a[1]);
            case "gauge": return x.gauge(a[0], a[1], a[2]);
            case "keep": return x.keep(a[0]);
            case "on": return x.on(a[0]);
            case "water": return x.water();
            case "beat": return x.beat(a[0]);
            case "span": return x.span(a[0]);
            case "ring": return x.ring(a[0], a[1]);
            case "roll": return x.roll(a[0]);
            case "kind": return x.kind(a[0], a[1], a[2], a[3]);
            case "mark": return x.mark(a[0], a[1], a[2], a[3], a[4]);
            case "quiet": return x.quiet(a[0], a[1]);
            case "still": return x.still(a[0], a[1]);
            case "wakes": return x.wakes(a[0]);
            case "pull": return x.pull(a[0], a[1], a[2]);
            case "tight": return x.tight(a[0], a[1], a[2]);
            case "where": return x.where(a[0], a[1], a[2]);
            case "tonight": return x.tonight(a[0], a[1], a[2]);
            case "odds": return x.odds(a[0], a[1]);
            case "work": return x.work(a[0], a[1], a[2], a[3]);
            case "back": return x.back(a[0]);
            case "does": return x.does(a[0], a[1], a[2]);
            case "worse": return x.worse(a[0], a[1]);
            case "least": return x.least(a[0], a[1], a[2]);
            case "since": return x.since(a[0], a[1], a[2], a[3], a[4]);
            case "which": return x.which(a[0], a[1], a[2]);
            case "asked": return x.asked();
            case "upper": return x.upper();
            case "lower": return x.lower();
            case "count": return x.count(a[0]);
            case "finding": return x.finding();
            case "findings": return x.findings(a[0]);
            case "digest": return x.digest();
            default: throw new IllegalStateException(name);
        }
    }
}
