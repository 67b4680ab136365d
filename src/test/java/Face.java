/** The calls of the class by their names. */
final class Face {
    private Face() {
    }

    /** Answers a call; a boolean as 1 or 0, a fraction by its bits. */
    static long call(InkPrintery x, String name, int a, int b) {
        switch (name) {
            case "addInk": return x.addInk(a, b);
            case "addPaper": return x.addPaper(a);
            case "pass": return x.pass(a);
            case "addEdition": return x.addEdition(a, b);
            case "removeEdition": return x.removeEdition(a);
            case "print": return x.print(a);
            case "printAll": return x.printAll();
            case "addProof": return x.addProof(a);
            case "dropProof": return x.dropProof(a);
            case "type": return x.type((char) a);
            case "execute": return x.execute();
            case "undo": return x.undo();
            case "save": return x.save();
            case "restore": return x.restore();
            case "writeEdition": return x.writeEdition(a);
            case "writeWells": return x.writeWells();
            case "lineAt": return x.lineAt(a);
            case "errorPosition": return x.errorPosition();
            case "failedCommand": return x.failedCommand();
            default: return ask(x, name, a, b);
        }
    }

    private static long ask(InkPrintery x, String name, int a, int b) {
        switch (name) {
            case "ink": return x.ink(a);
            case "paper": return x.paper();
            case "hour": return x.hour();
            case "inkAfter": return x.inkAfter(a, b);
            case "inkByHalvings": return x.inkByHalvings(a, b);
            case "hoursUntilLess": return x.hoursUntilLess(a, b);
            case "pressColour": return x.pressColour();
            case "changeMinutes": return x.changeMinutes(a, b);
            case "minutes": return x.minutes();
            case "poured": return x.poured();
            case "used": return x.used();
            case "faded": return x.faded();
            case "inkInWells": return x.inkInWells();
            case "isConsistent": return x.isConsistent() ? 1 : 0;
            case "fadedShare": return Float.floatToIntBits(x.fadedShare());
            case "proofCount": return x.proofCount();
            case "marksOf": return x.marksOf(a);
            case "hourOf": return x.hourOf(a);
            case "longestRise": return x.longestRise();
            case "riseByEnds": return x.riseByEnds();
            case "riseCount": return x.riseCount();
            default: return askEditions(x, name, a);
        }
    }

    private static long askEditions(InkPrintery x, String name, int a) {
        switch (name) {
            case "editionCount": return x.editionCount();
            case "colourOf": return x.colourOf(a);
            case "runOf": return x.runOf(a);
            case "printedOf": return x.printedOf(a);
            case "isComplete": return x.isComplete(a) ? 1 : 0;
            case "fewestMinutes": return x.fewestMinutes();
            case "minutesByOrders": return x.minutesByOrders();
            case "editionAt": return x.editionAt(a);
            case "shareOf": return x.shareOf(a);
            case "shareByLevel": return x.shareByLevel(a);
            case "editionByMissing": return x.editionByMissing(a);
            case "meanRun": return Double.doubleToLongBits(x.meanRun());
            default: throw new AssertionError("no such call: " + name);
        }
    }
}
