/** All of a cabinet that calls can show, as a text: how it stands, what could be UNDONE and what is KEPT. */
final class Picture {
    private Picture() {
    }

    /** Uses the cabinet up: it is undone and brought back as far as it can be. A small one stays below 512 calls. */
    static String of(BannisterCabinet cabinet) {
        StringBuilder picture = new StringBuilder();
        asItStands(cabinet, picture);
        asItWasSeen(cabinet, picture);
        for (int i = 0; i < 9 && cabinet.undo() >= 0; i++) {
            picture.append("undone: ");
            asItStands(cabinet, picture);
        }
        for (int i = 0; i < 3 && cabinet.back() >= 0; i++) {
            picture.append("back: ");
            asItStands(cabinet, picture);
        }
        picture.append("laid: ").append(cabinet.lay()).append(' ');
        asItStands(cabinet, picture);
        return picture.toString();
    }

    private static void asItStands(BannisterCabinet cabinet, StringBuilder picture) {
        for (int what = 0; what < 9; what++) {
            picture.append(cabinet.count(what)).append(' ');
        }
        picture.append("| ").append(cabinet.fault());
        for (int m = 0; m < cabinet.count(0); m++) {
            picture.append(" | m");
            for (int what = 0; what < 4; what++) {
                picture.append(' ').append(cabinet.minister(m, what));
            }
        }
        picture.append(" | steps");
        for (int x = 0; x < cabinet.count(1); x++) {
            picture.append(' ').append(cabinet.step(x, 0)).append(cabinet.step(x, 1)).append(cabinet.step(x, 2));
        }
        picture.append('\n');
    }

    private static void asItWasSeen(BannisterCabinet cabinet, StringBuilder picture) {
        picture.append("seen:");
        for (int x = 0; x < cabinet.count(1); x++) {
            picture.append(' ').append(cabinet.waxes(x));
        }
        for (int m = 0; m < cabinet.count(0); m++) {
            picture.append(' ').append(cabinet.grips(m));
        }
        picture.append('\n');
    }
}
