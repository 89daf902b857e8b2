/** All that can be seen of an object through its face, as one text. */
final class Look {
    private Look() {
    }

    /** The object answers afterwards as it did before (laws and z are set back). */
    static String at(SaidWeather x) {
        StringBuilder out = new StringBuilder();
        for (int what = 0; what <= 5; what++) {
            out.append(x.many(what)).append(',');
        }
        out.append("\nnow ").append(x.now()).append(" laws");
        for (int law = 0; law < 4; law++) {
            int v = x.set(law, 0);
            x.set(law, v);
            out.append(' ').append(v);
        }
        int z = x.seed(0);
        x.seed(z);
        out.append(" z ").append(z);
        lookAtDays(x, out);
        lookAtSayers(x, out);
        lookAtHost(x, out);
        return out.toString();
    }

    /** That, and what its tape tells and what is kept; the object is another one afterwards. */
    static String whole(SaidWeather x) {
        StringBuilder out = new StringBuilder(at(x));
        out.append("\nits tape tells ").append(x.clerk()).append('\n').append(at(x));
        out.append("\nis kept ").append(x.again()).append('\n').append(at(x));
        return out.toString();
    }

    private static void lookAtDays(SaidWeather x, StringBuilder out) {
        for (int day = 0; day < 20; day++) {
            out.append("\nday ").append(day);
            for (int what = 0; what < 10; what++) {
                out.append(' ').append(x.dayOf(day, what));
            }
            out.append(" owner ").append(x.owner(day));
        }
    }

    private static void lookAtSayers(SaidWeather x, StringBuilder out) {
        for (int sayer = 0; sayer < x.many(0); sayer++) {
            out.append("\nsayer ").append(sayer);
            for (int what = 0; what < 4; what++) {
                out.append(' ').append(x.sayerOf(sayer, what));
            }
        }
        for (int saying = 0; saying < x.many(1); saying++) {
            out.append("\nsaying ").append(saying);
            for (int what = 0; what < 4; what++) {
                out.append(' ').append(x.sayingOf(saying, what));
            }
        }
        for (int i = 0; i < x.many(3); i++) {
            out.append("\nrow ").append(i);
            for (int what = 0; what < 3; what++) {
                out.append(' ').append(x.row(i, what));
            }
        }
    }

    private static void lookAtHost(SaidWeather x, StringBuilder out) {
        for (int sheet = 0; sheet < 4; sheet++) {
            out.append("\nsheet ").append(sheet);
            for (int sort = 0; sort < 4; sort++) {
                for (int i = 0; i <= 40; i++) {
                    int item = x.item(sheet, sort, i);
                    out.append(' ').append(item);
                    if (item == -11 || item == -13) {
                        break;
                    }
                }
            }
        }
        for (int shelf = 0; shelf < 4; shelf++) {
            out.append("\nshelf ").append(shelf);
            for (int as = 0; as < 14; as++) {
                out.append(' ').append(x.taken(shelf, as));
            }
        }
        out.append("\ntrace");
        for (int i = 0; i < x.many(5); i++) {
            out.append(' ').append(x.trace(i));
        }
    }
}
