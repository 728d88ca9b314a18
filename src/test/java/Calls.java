/** Each call but lake() that may be refused, with arguments by which it isn't on a LAKE that has all it needs. */
final class Calls {
    private static final String ALL_SORTS = "lake mice 10;house a north weight 3;house b south weight 4;house c north weight 0;"
            + "rope a b;rope b c;corks a red 2;corks b white 1;guest g weight 2 at a;drinker p white drinks 2;"
            + "feast a week 1 high 1;gave p c 2;seen a over 1";

    private Calls() {
    }

    /** A LAKE with an IMAGE, and a rope that is cut, so that it can be tied and that can be undone. */
    static CorkStreet ready() {
        CorkStreet x = Due.lakeOf(ALL_SORTS);
        x.image();
        x.cut(1);
        return x;
    }

    static Call[] all() {
        return new Call[] {
            new Call("house", x -> x.house(0, 0)),
            new Call("corks", x -> x.corks(0, 0)),
            new Call("guest", x -> x.guest(0, 0)),
            new Call("rope", x -> x.rope(0, 0)),
            new Call("under", x -> x.under()),
            new Call("lowest", x -> x.lowest()),
            new Call("rafts", x -> x.rafts()),
            new Call("tilt", x -> x.tilt(0)),
            new Call("heightIn", x -> x.heightIn(0, 0)),
            new Call("underIn", x -> x.underIn(0)),
            new Call("sinks", x -> x.sinks(0)),
            new Call("wetFeast", x -> x.wetFeast()),
            new Call("aunt", x -> x.aunt(0, 0, 0)),
            new Call("bestStay", x -> x.bestStay(0)),
            new Call("bestMove", x -> x.bestMove(0)),
            new Call("bestCut", x -> x.bestCut()),
            new Call("plan", x -> x.plan(1)),
            new Call("planDays", x -> x.planDays(0, 1)),
            new Call("planHouse", x -> x.planHouse(0, 1)),
            new Call("feasts", x -> x.feasts(1)),
            new Call("feastHouse", x -> x.feastHouse(0, 1)),
            new Call("sets", x -> x.sets()),
            new Call("setAt", x -> x.setAt(0)),
            new Call("could", x -> x.could()),
            new Call("surely", x -> x.surely()),
            new Call("ask", x -> x.ask()),
            new Call("askLeaves", x -> x.askLeaves()),
            new Call("judge", x -> x.judge()),
            new Call("value", x -> x.value(0)),
            new Call("kingCuts", x -> x.kingCuts(1)),
            new Call("dry", x -> x.dry(0, 0, false)),
            new Call("mean", x -> x.mean(0, 0, false)),
            new Call("safest", x -> x.safest(0)),
            new Call("losses", x -> x.losses(0, 0, false)),
            new Call("weeks", x -> x.weeks(0, 0, 0)),
            new Call("eaten", x -> x.eaten(0, 0)),
            new Call("sunkAt", x -> x.sunkAt(0, 0)),
            new Call("drink", x -> x.drink(0, 0)),
            new Call("move", x -> Bounds.bit(x.move(0, 1))),
            new Call("cut", x -> Bounds.bit(x.cut(0))),
            new Call("tie", x -> Bounds.bit(x.tie(1))),
            new Call("week", x -> x.week()),
            new Call("seed", x -> Bounds.bit(x.seed(0))),
            new Call("undo", x -> Bounds.bit(x.undo())),
            new Call("image", x -> x.image()),
            new Call("back", x -> Bounds.bit(x.back(0))),
        };
    }
}
