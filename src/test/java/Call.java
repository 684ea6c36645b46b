import java.util.function.ToIntFunction;

/** A call with its name; a boolean answer counts 1 or 0. */
record Call(String name, ToIntFunction<CountedMaker> body) {
    static Call password(int b) {
        return new Call("password(" + b + ")", x -> x.password(b) ? 1 : 0);
    }

    static Call four(int bytes) {
        return new Call("four(" + bytes + ")", x -> x.four(bytes) ? 1 : 0);
    }

    static Call salt(int b) {
        return new Call("salt(" + b + ")", x -> x.salt(b) ? 1 : 0);
    }

    static Call start(int turns, int bytes) {
        return new Call("start(" + turns + ", " + bytes + ")", x -> x.start(turns, bytes));
    }

    static Call step() {
        return new Call("step()", CountedMaker::step);
    }

    static Call run(int most) {
        return new Call("run(" + most + ")", x -> x.run(most));
    }

    static Call left() {
        return new Call("left()", CountedMaker::left);
    }

    static Call key(int i) {
        return new Call("key(" + i + ")", x -> x.key(i));
    }

    static Call many(int what) {
        return new Call("many(" + what + ")", x -> x.many(what));
    }

    static Call sum(int i) {
        return new Call("sum(" + i + ")", x -> x.sum(i));
    }

    static Call mark(int i) {
        return new Call("mark(" + i + ")", x -> x.mark(i));
    }

    static Call word(int which, int i) {
        return new Call("word(" + which + ", " + i + ")", x -> x.word(which, i));
    }

    int on(CountedMaker x) {
        return body.applyAsInt(x);
    }
}
