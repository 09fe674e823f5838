import java.util.ArrayList;
import java.util.List;

/** All that can be asked of an object, so that two objects can be compared. */
final class Picture {
    private final ValueNumberer x;
    private final List<String> calls = new ArrayList<>();
    private final List<Long> answers = new ArrayList<>();

    private Picture(ValueNumberer x) {
        this.x = x;
    }

    /** The calls change nothing but what is asked last: runs of sheets, then the images. */
    static void dueAlike(String what, ValueNumberer got, ValueNumberer want) {
        Picture one = of(got);
        Picture other = of(want);
        Check.due(what + ": how many calls", one.calls.size(), other.calls.size());
        for (int i = 0; i < Math.min(one.calls.size(), other.calls.size()); i++) {
            Check.due(what + ": " + one.calls.get(i), one.answers.get(i), other.answers.get(i));
        }
    }

    private static Picture of(ValueNumberer x) {
        Picture picture = new Picture(x);
        picture.putProgram();
        picture.putNames();
        for (int what = 0; what <= 3; what++) picture.put("count " + what, x.count(what));
        picture.put("fault", x.fault());
        picture.put("torn", x.torn());
        return picture;
    }

    private void put(String call, long answer) {
        calls.add(call);
        answers.add(answer);
    }

    private void putProgram() {
        for (int what = 0; what <= 4; what++) put("rule " + what, x.rule(what));
        for (int what = 0; what <= 2; what++) {
            put("went " + what, x.went(what));
            put("classes " + what, x.classes(what));
        }
        for (int b = 0; b < x.rule(0); b++) {
            for (int what = 0; what <= 8; what++) put("block " + b + " " + what, x.block(b, what));
            for (int i = 0; i < x.block(b, 6); i++) put("pred " + b + " " + i, x.pred(b, i));
        }
    }

    private void putNames() {
        int names = x.rule(1);
        for (int n = 0; n < names; n++) {
            for (int what = 0; what <= 4; what++) put("name " + n + " " + what, x.name(n, what));
            for (int i = 0; i < x.name(n, 2); i++) put("operand " + n + " " + i, x.operand(n, i));
            put("value " + n, x.value(n));
            put("part " + n, x.part(n));
            put("partAt 0 " + n, x.partAt(n, 0));
            put("leader " + n, x.leader(n));
            put("form " + n, x.form(n));
            put("number " + n, x.number(n));
            put("seen " + n, x.seen(0, n));
        }
    }
}
