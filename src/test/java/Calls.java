/** The calls of the face by their names. */
final class Calls {
  private Calls() {
  }

  static int call(BlameIsFurniture x, String name, int a, int b, int c) {
    return switch (name) {
      case "letter" -> x.letter(a);
      case "house" -> x.house();
      case "piece" -> x.piece(a, b);
      case "carry" -> x.carry(a, b);
      case "stands" -> x.stands(a, b);
      case "polish" -> x.polish(a);
      case "size" -> x.size(a, b);
      case "wide" -> x.wide(a, b);
      case "heirs" -> x.heirs(a);
      case "years" -> x.years(a);
      case "blame" -> x.blame(a);
      case "worst" -> x.worst();
      case "crowded" -> x.crowded();
      case "placing" -> x.placing(a, b, c);
      case "innocent" -> x.innocent();
      case "shares" -> x.shares(a);
      case "dealt" -> x.dealt(a);
      case "envy" -> x.envy();
      case "choice" -> x.choice(a);
      case "sell" -> x.sell(a);
      case "burn" -> x.burn();
      case "heavier" -> x.heavier();
      case "later" -> x.later(a);
      case "gone" -> x.gone(a);
      case "whose" -> x.whose(a);
      case "ask" -> x.ask(a);
      case "wider" -> x.wider(a, b, c);
      case "bigger" -> x.bigger(a, b);
      case "guest" -> x.guest(a);
      case "row" -> x.row(a);
      case "fits" -> x.fits(a);
      case "judge" -> x.judge();
      case "lots" -> x.lots(a, b);
      case "image" -> x.image();
      case "on" -> x.on();
      case "count" -> x.count(a);
      default -> throw new IllegalArgumentException(name);
    };
  }
}
