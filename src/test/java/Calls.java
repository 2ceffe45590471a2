/** A call of BetweenLaws by its name; arguments that it does not have are left aside. */
final class Calls {
    private Calls() { }

    static int answer(BetweenLaws x, String name, int a, int b, int c) {
        switch (name) {
            case "say": return x.say(a);
            case "wipe": return x.wipe();
            case "fault": return x.fault();
            case "law": return x.law(a, b);
            case "anew": return x.anew(a);
            case "move": return x.move(a, b, c);
            case "of": return x.of(a, b);
            case "part": return x.part(a, b, c);
            case "force": return x.force(a, b);
            case "open": return x.open(a);
            case "piece": return x.piece(a, b);
            case "about": return x.about(a, b);
            case "change": return x.change(a, b, c);
            case "set": return x.set(a, b);
            case "meets": return x.meets(a, b, c);
            case "why": return x.why(a, b, c);
            case "governs": return x.governs(a, b);
            case "those": return x.those(a, b);
            case "gives": return x.gives(a, b);
            case "route": return x.route(a, b, c);
            case "sum": return x.sum(a);
            case "passage": return x.passage(a, b, c);
            case "term": return x.term(a, b, c);
            case "whole": return x.whole(a, b);
            case "taken": return x.taken(a);
            case "brief": return x.brief(a);
            case "caught": return x.caught(a);
            case "read": return x.read(a, b, c);
            case "ways": return x.ways(a, b);
            case "hangs": return x.hangs(a, b);
            case "wish": return x.wish(a, b);
            case "mend": return x.mend(a, b, c);
            case "all": return x.all(a, b);
            case "image": return x.image(a);
            case "restore": return x.restore(a);
            case "told": return x.told(a);
            default: throw new IllegalArgumentException(name);
        }
    }
}
