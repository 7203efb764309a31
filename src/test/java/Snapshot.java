/** All that an object answers about its text, its stage, its order and its arrangement, as one text. */
final class Snapshot {
    private Snapshot() {
    }

    static String of(BallPots x) {
        StringBuilder all = new StringBuilder();
        for (int what = 0; what < 7; what++) {
            all.append(x.count(what)).append(' ');
        }
        for (int letter = 1; letter <= 26; letter++) {
            all.append(x.named(0, letter << 25)).append(x.named(1, letter << 25)).append(' ');
        }
        all.append(x.lawful()).append(' ').append(x.forbids());
        teams(x, all);
        groups(x, all);
        wholes(x, all);
        return all.toString();
    }

    private static void teams(BallPots x, StringBuilder all) {
        for (int team = 0; team < x.count(2); team++) {
            all.append("\nteam ").append(x.placed(team)).append(' ').append(x.ends(team)).append(' ');
            all.append(x.look(team, 0)).append(' ').append(x.look(team, 1)).append(' ').append(x.draw(0, team));
            for (int way = 0; way < 3; way++) {
                for (int other = 0; other < x.count(2); other++) {
                    all.append(' ').append(x.pair(team, other, way));
                }
                for (int group = 0; group < x.count(0); group++) {
                    all.append(' ').append(x.place(team, group, way));
                }
            }
        }
    }

    private static void groups(BallPots x, StringBuilder all) {
        for (int group = 0; group < x.count(0); group++) {
            all.append("\ngroup ").append(x.why(group)).append(' ').append(x.blame(group));
        }
    }

    private static void wholes(BallPots x, StringBuilder all) {
        all.append('\n').append(x.nearest(0)).append(' ').append(x.nearest(1)).append(' ').append(x.leave(50));
        for (int what = 0; what < 6; what++) {
            all.append(' ').append(x.apart(0, 1, what)).append(' ').append(x.apart(2, 0, what));
        }
        for (int row = 0; row < Math.min(x.count(6), 36); row++) {
            all.append(' ').append(x.leads(row)).append(' ').append(x.judge(row));
        }
        for (int n : new int[] {5, 2, 3, 0}) {
            all.append(' ').append(x.mixed(n, 0)).append(' ').append(x.parts(n % 3)).append(' ').append(x.mix(n, 0));
            all.append(' ').append(x.parts(1));
            all.append(' ').append(x.run(n, 0)).append(' ').append(x.run(n, x.count(2) - 1));
            all.append(' ').append(x.evenly(n, 0));
        }
        for (int bar = 0; bar < x.count(4); bar++) {
            all.append(' ').append(x.without(bar)).append(' ').append(x.moves(bar, 0, x.count(2) - 1));
        }
    }
}
