def R_TB : String := "ThresholdBench"
def R_Row : String := "ThresholdBench$Row"
def R_Sig : String := "ThresholdBench$Signing"
def R_Sca : String := "ThresholdBench$Scalars"
def R_Fie : String := "ThresholdBench$Field"
def R_Cur : String := "ThresholdBench$Curve"
def R_Poi : String := "ThresholdBench$Point"
def R_Ter : String := "ThresholdBench$Term"
def R_Par : String := "ThresholdBench$Participant"
def R_Dig : String := "ThresholdBench$Digests"
def R_Sha : String := "ThresholdBench$Sha"
def R_Mo : String := "ThresholdBenchModel"
def R_La : String := "ThresholdBenchLaw"
def R_Arr : String := "java/util/Arrays"
def F_TB : u_T := fun k => match k with
  | 0 => ("ThresholdBench", "tape", "LThresholdBench$Row;", false)
  | 1 => ("ThresholdBench", "taken", "LThresholdBench$Row;", false)
  | 2 => ("ThresholdBench", "text", "LThresholdBench$Row;", true)
  | 3 => ("ThresholdBench", "shown", "LThresholdBench$Row;", true)
  | 4 => ("ThresholdBench", "threshold", "I", false)
  | 5 => ("ThresholdBench", "size", "I", false)
  | 6 => ("ThresholdBench", "committed", "I", false)
  | 7 => ("ThresholdBench", "participants", "[LThresholdBench$Participant;", true)
  | 8 => ("ThresholdBench", "coefficientPoints", "[LThresholdBench$Point;", true)
  | 9 => ("ThresholdBench", "signing", "LThresholdBench$Signing;", false)
  | 10 => ("ThresholdBench", "spare", "LThresholdBench$Signing;", false)
  | 11 => ("ThresholdBench", "scalars", "LThresholdBench$Scalars;", true)
  | 12 => ("ThresholdBench", "curve", "LThresholdBench$Curve;", true)
  | 13 => ("ThresholdBench", "digests", "LThresholdBench$Digests;", true)
  | 14 => ("ThresholdBench", "drawn", "[[I", true)
  | 15 => ("ThresholdBench", "first", "[I", true)
  | 16 => ("ThresholdBench", "second", "[I", true)
  | 17 => ("ThresholdBench", "left", "LThresholdBench$Point;", true)
  | _ => ("ThresholdBench", "otherSide", "LThresholdBench$Point;", true)
def t_TB : Nat → FieldType := fun k => match k with
  | 0 => (.object "ThresholdBench$Row")
  | 1 => (.object "ThresholdBench$Row")
  | 2 => (.object "ThresholdBench$Row")
  | 3 => (.object "ThresholdBench$Row")
  | 4 => .int
  | 5 => .int
  | 6 => .int
  | 7 => (.array (.object "ThresholdBench$Participant"))
  | 8 => (.array (.object "ThresholdBench$Point"))
  | 9 => (.object "ThresholdBench$Signing")
  | 10 => (.object "ThresholdBench$Signing")
  | 11 => (.object "ThresholdBench$Scalars")
  | 12 => (.object "ThresholdBench$Curve")
  | 13 => (.object "ThresholdBench$Digests")
  | 14 => (.array (.array .int))
  | 15 => (.array .int)
  | 16 => (.array .int)
  | 17 => (.object "ThresholdBench$Point")
  | _ => (.object "ThresholdBench$Point")
def F_Row : u_T := fun k => match k with
  | 0 => ("ThresholdBench$Row", "bytes", "[B", true)
  | _ => ("ThresholdBench$Row", "length", "I", false)
def t_Row : Nat → FieldType := fun k => match k with
  | 0 => (.array .byte)
  | _ => .int
def F_Sig : u_T := fun k => match k with
  | 0 => ("ThresholdBench$Signing", "set", "I", false)
  | 1 => ("ThresholdBench$Signing", "given", "I", false)
  | 2 => ("ThresholdBench$Signing", "commitment", "LThresholdBench$Point;", true)
  | 3 => ("ThresholdBench$Signing", "challenge", "[I", true)
  | 4 => ("ThresholdBench$Signing", "factors", "[[I", true)
  | 5 => ("ThresholdBench$Signing", "weights", "[[I", true)
  | _ => ("ThresholdBench$Signing", "shares", "[[I", true)
def t_Sig : Nat → FieldType := fun k => match k with
  | 0 => .int
  | 1 => .int
  | 2 => (.object "ThresholdBench$Point")
  | 3 => (.array .int)
  | 4 => (.array (.array .int))
  | 5 => (.array (.array .int))
  | _ => (.array (.array .int))
def F_Sca : u_T := fun k => match k with
  | 0 => ("ThresholdBench$Scalars", "wide", "[I", true)
  | _ => ("ThresholdBench$Scalars", "high", "[I", true)
def t_Sca : Nat → FieldType := fun k => match k with
  | 0 => (.array .int)
  | _ => (.array .int)
def F_Fie : u_T := fun k => match k with
  | 0 => ("ThresholdBench$Field", "wide", "[J", true)
  | 1 => ("ThresholdBench$Field", "probe", "[J", true)
  | 2 => ("ThresholdBench$Field", "power", "[J", true)
  | 3 => ("ThresholdBench$Field", "ones2", "[J", true)
  | 4 => ("ThresholdBench$Field", "ones3", "[J", true)
  | 5 => ("ThresholdBench$Field", "ones22", "[J", true)
  | 6 => ("ThresholdBench$Field", "ones44", "[J", true)
  | _ => ("ThresholdBench$Field", "ones", "[J", true)
def t_Fie : Nat → FieldType := fun k => match k with
  | 0 => (.array .long)
  | 1 => (.array .long)
  | 2 => (.array .long)
  | 3 => (.array .long)
  | 4 => (.array .long)
  | 5 => (.array .long)
  | 6 => (.array .long)
  | _ => (.array .long)
def F_Cur : u_T := fun k => match k with
  | 0 => ("ThresholdBench$Curve", "field", "LThresholdBench$Field;", true)
  | 1 => ("ThresholdBench$Curve", "a", "[J", true)
  | 2 => ("ThresholdBench$Curve", "b", "[J", true)
  | 3 => ("ThresholdBench$Curve", "c", "[J", true)
  | 4 => ("ThresholdBench$Curve", "d", "[J", true)
  | 5 => ("ThresholdBench$Curve", "e", "[J", true)
  | 6 => ("ThresholdBench$Curve", "words", "[I", true)
  | 7 => ("ThresholdBench$Curve", "tooth", "LThresholdBench$Point;", true)
  | 8 => ("ThresholdBench$Curve", "terms", "[LThresholdBench$Term;", true)
  | _ => ("ThresholdBench$Curve", "termCount", "I", false)
def t_Cur : Nat → FieldType := fun k => match k with
  | 0 => (.object "ThresholdBench$Field")
  | 1 => (.array .long)
  | 2 => (.array .long)
  | 3 => (.array .long)
  | 4 => (.array .long)
  | 5 => (.array .long)
  | 6 => (.array .int)
  | 7 => (.object "ThresholdBench$Point")
  | 8 => (.array (.object "ThresholdBench$Term"))
  | _ => .int
def F_Poi : u_T := fun k => match k with
  | 0 => ("ThresholdBench$Point", "x", "[J", true)
  | 1 => ("ThresholdBench$Point", "y", "[J", true)
  | 2 => ("ThresholdBench$Point", "z", "[J", true)
  | _ => ("ThresholdBench$Point", "zero", "Z", false)
def t_Poi : Nat → FieldType := fun k => match k with
  | 0 => (.array .long)
  | 1 => (.array .long)
  | 2 => (.array .long)
  | _ => .boolean
def F_Ter : u_T := fun k => match k with
  | 0 => ("ThresholdBench$Term", "base", "LThresholdBench$Point;", true)
  | _ => ("ThresholdBench$Term", "factor", "[I", true)
def t_Ter : Nat → FieldType := fun k => match k with
  | 0 => (.object "ThresholdBench$Point")
  | _ => (.array .int)
def F_Par : u_T := fun k => match k with
  | 0 => ("ThresholdBench$Participant", "dealt", "[I", true)
  | 1 => ("ThresholdBench$Participant", "secret", "[I", true)
  | 2 => ("ThresholdBench$Participant", "hiding", "[I", true)
  | 3 => ("ThresholdBench$Participant", "binding", "[I", true)
  | 4 => ("ThresholdBench$Participant", "key", "LThresholdBench$Point;", true)
  | 5 => ("ThresholdBench$Participant", "hidingPoint", "LThresholdBench$Point;", true)
  | _ => ("ThresholdBench$Participant", "bindingPoint", "LThresholdBench$Point;", true)
def t_Par : Nat → FieldType := fun k => match k with
  | 0 => (.array .int)
  | 1 => (.array .int)
  | 2 => (.array .int)
  | 3 => (.array .int)
  | 4 => (.object "ThresholdBench$Point")
  | 5 => (.object "ThresholdBench$Point")
  | _ => (.object "ThresholdBench$Point")
def F_Dig : u_T := fun k => match k with
  | 0 => ("ThresholdBench$Digests", "sha", "LThresholdBench$Sha;", true)
  | 1 => ("ThresholdBench$Digests", "input", "LThresholdBench$Row;", true)
  | 2 => ("ThresholdBench$Digests", "list", "LThresholdBench$Row;", true)
  | 3 => ("ThresholdBench$Digests", "start", "LThresholdBench$Row;", true)
  | _ => ("ThresholdBench$Digests", "expanded", "LThresholdBench$Row;", true)
def t_Dig : Nat → FieldType := fun k => match k with
  | 0 => (.object "ThresholdBench$Sha")
  | 1 => (.object "ThresholdBench$Row")
  | 2 => (.object "ThresholdBench$Row")
  | 3 => (.object "ThresholdBench$Row")
  | _ => (.object "ThresholdBench$Row")
def F_Sha : u_T := fun k => match k with
  | 0 => ("ThresholdBench$Sha", "state", "[I", true)
  | 1 => ("ThresholdBench$Sha", "schedule", "[I", true)
  | _ => ("ThresholdBench$Sha", "taken", "I", false)
def t_Sha : Nat → FieldType := fun k => match k with
  | 0 => (.array .int)
  | 1 => (.array .int)
  | _ => .int
def F_Mo : u_T := fun k => match k with
  | 0 => ("ThresholdBenchModel", "roundNumbers", "[I", true)
  | 1 => ("ThresholdBenchModel", "modulusP", "[I", true)
  | 2 => ("ThresholdBenchModel", "modulusQ", "[I", true)
  | 3 => ("ThresholdBenchModel", "baseX", "[I", true)
  | 4 => ("ThresholdBenchModel", "baseY", "[I", true)
  | 5 => ("ThresholdBenchModel", "context", "[I", true)
  | 6 => ("ThresholdBenchModel", "tags", "[I", true)
  | 7 => ("ThresholdBenchModel", "tagAt", "[I", true)
  | 8 => ("ThresholdBenchModel", "thrown", "I", false)
  | 9 => ("ThresholdBenchModel", "v", "[J", true)
  | 10 => ("ThresholdBenchModel", "product", "[J", true)
  | 11 => ("ThresholdBenchModel", "folds", "[J", true)
  | 12 => ("ThresholdBenchModel", "zero", "[Z", true)
  | 13 => ("ThresholdBenchModel", "powers", "Z", false)
  | 14 => ("ThresholdBenchModel", "threshold", "I", false)
  | 15 => ("ThresholdBenchModel", "many", "I", false)
  | 16 => ("ThresholdBenchModel", "committed", "I", false)
  | 17 => ("ThresholdBenchModel", "set", "I", false)
  | 18 => ("ThresholdBenchModel", "given", "I", false)
  | 19 => ("ThresholdBenchModel", "isBelow", "[Z", true)
  | 20 => ("ThresholdBenchModel", "tape", "[B", true)
  | 21 => ("ThresholdBenchModel", "message", "[B", true)
  | 22 => ("ThresholdBenchModel", "out", "[B", true)
  | 23 => ("ThresholdBenchModel", "list", "[B", true)
  | 24 => ("ThresholdBenchModel", "block", "[B", true)
  | 25 => ("ThresholdBenchModel", "sha", "[B", true)
  | 26 => ("ThresholdBenchModel", "first", "[B", true)
  | 27 => ("ThresholdBenchModel", "asked", "[B", true)
  | 28 => ("ThresholdBenchModel", "state", "[I", true)
  | 29 => ("ThresholdBenchModel", "rows", "[I", true)
  | 30 => ("ThresholdBenchModel", "taped", "I", false)
  | 31 => ("ThresholdBenchModel", "messageSize", "I", false)
  | 32 => ("ThresholdBenchModel", "outSize", "I", false)
  | _ => ("ThresholdBenchModel", "listSize", "I", false)
def t_Mo : Nat → FieldType := fun k => match k with
  | 0 => (.array .int)
  | 1 => (.array .int)
  | 2 => (.array .int)
  | 3 => (.array .int)
  | 4 => (.array .int)
  | 5 => (.array .int)
  | 6 => (.array .int)
  | 7 => (.array .int)
  | 8 => .int
  | 9 => (.array .long)
  | 10 => (.array .long)
  | 11 => (.array .long)
  | 12 => (.array .boolean)
  | 13 => .boolean
  | 14 => .int
  | 15 => .int
  | 16 => .int
  | 17 => .int
  | 18 => .int
  | 19 => (.array .boolean)
  | 20 => (.array .byte)
  | 21 => (.array .byte)
  | 22 => (.array .byte)
  | 23 => (.array .byte)
  | 24 => (.array .byte)
  | 25 => (.array .byte)
  | 26 => (.array .byte)
  | 27 => (.array .byte)
  | 28 => (.array .int)
  | 29 => (.array .int)
  | 30 => .int
  | 31 => .int
  | 32 => .int
  | _ => .int
abbrev CL : List vw_C := [(R_TB, F_TB, 19), (R_Row, F_Row, 2), (R_Sig, F_Sig, 7), (R_Sca, F_Sca, 2), (R_Fie, F_Fie, 8), (R_Cur, F_Cur, 10), (R_Poi, F_Poi, 4), (R_Ter, F_Ter, 2), (R_Par, F_Par, 7), (R_Dig, F_Dig, 5), (R_Sha, F_Sha, 3), (R_Mo, F_Mo, 34)]
def y_TB_init : MethodName := ⟨R_TB, "<init>", "()V"⟩
def y_TB_about : MethodName := ⟨R_TB, "about", "(I)I"⟩
def y_TB_change : MethodName := ⟨R_TB, "change", "(I)Z"⟩
def y_TB_choose : MethodName := ⟨R_TB, "choose", "(I)V"⟩
def y_TB_commit : MethodName := ⟨R_TB, "commit", "(I)V"⟩
def y_TB_deal : MethodName := ⟨R_TB, "deal", "(II)V"⟩
def y_TB_drawCoefficients : MethodName := ⟨R_TB, "drawCoefficients", "(I)Z"⟩
def y_TB_endSet : MethodName := ⟨R_TB, "endSet", "()V"⟩
def y_TB_feed : MethodName := ⟨R_TB, "feed", "(IIIIII)I"⟩
def y_TB_feedWord : MethodName := ⟨R_TB, "feedWord", "(II)V"⟩
def y_TB_gather : MethodName := ⟨R_TB, "gather", "()I"⟩
def y_TB_holds : MethodName := ⟨R_TB, "holds", "()Z"⟩
def y_TB_isIn : MethodName := ⟨R_TB, "isIn", "(II)Z"⟩
def y_TB_isParticipant : MethodName := ⟨R_TB, "isParticipant", "(I)Z"⟩
def y_TB_isThere : MethodName := ⟨R_TB, "isThere", "(II)Z"⟩
def y_TB_message : MethodName := ⟨R_TB, "message", "()I"⟩
def y_TB_other : MethodName := ⟨R_TB, "other", "(I)V"⟩
def y_TB_output : MethodName := ⟨R_TB, "output", "(I)I"⟩
def y_TB_requireDealt : MethodName := ⟨R_TB, "requireDealt", "()V"⟩
def y_TB_requireSet : MethodName := ⟨R_TB, "requireSet", "()V"⟩
def y_TB_right : MethodName := ⟨R_TB, "right", "(I)Z"⟩
def y_TB_share : MethodName := ⟨R_TB, "share", "(I)V"⟩
def y_TB_show : MethodName := ⟨R_TB, "show", "(II)I"⟩
def y_TB_takeTape : MethodName := ⟨R_TB, "takeTape", "()V"⟩
def y_Cur_init : MethodName := ⟨R_Cur, "<init>", "()V"⟩
def y_Dig_init : MethodName := ⟨R_Dig, "<init>", "()V"⟩
def y_Dig_plain : MethodName := ⟨R_Dig, "plain", "(LThresholdBench$Row;LThresholdBench$Row;)V"⟩
def y_Fie_init : MethodName := ⟨R_Fie, "<init>", "()V"⟩
def y_Par_init : MethodName := ⟨R_Par, "<init>", "()V"⟩
def y_Poi_init : MethodName := ⟨R_Poi, "<init>", "()V"⟩
def y_Row_init : MethodName := ⟨R_Row, "<init>", "(I)V"⟩
def y_Row_clear : MethodName := ⟨R_Row, "clear", "()V"⟩
def y_Row_put : MethodName := ⟨R_Row, "put", "(I)V"⟩
def y_Row_putPart : MethodName := ⟨R_Row, "putPart", "(LThresholdBench$Row;II)V"⟩
def y_Row_putRow : MethodName := ⟨R_Row, "putRow", "(LThresholdBench$Row;)V"⟩
def y_Sca_init : MethodName := ⟨R_Sca, "<init>", "()V"⟩
def y_Sha_init : MethodName := ⟨R_Sha, "<init>", "()V"⟩
def y_Sha_addToState : MethodName := ⟨R_Sha, "addToState", "(IIIII)V"⟩
def y_Sha_begin : MethodName := ⟨R_Sha, "begin", "()V"⟩
def y_Sha_compress : MethodName := ⟨R_Sha, "compress", "()V"⟩
def y_Sha_end : MethodName := ⟨R_Sha, "end", "(LThresholdBench$Row;)V"⟩
def y_Sha_takeByte : MethodName := ⟨R_Sha, "takeByte", "(I)V"⟩
def y_Sha_takeRow : MethodName := ⟨R_Sha, "takeRow", "(LThresholdBench$Row;)V"⟩
def y_Sig_init : MethodName := ⟨R_Sig, "<init>", "()V"⟩
def y_Ter_init : MethodName := ⟨R_Ter, "<init>", "()V"⟩
def y_La_change : MethodName := ⟨R_La, "change", "(LThresholdBench;I[J)I"⟩
def y_La_choose : MethodName := ⟨R_La, "choose", "(LThresholdBench;I)I"⟩
def y_La_commit : MethodName := ⟨R_La, "commit", "(LThresholdBench;I)I"⟩
def y_La_deal : MethodName := ⟨R_La, "deal", "(LThresholdBench;II)I"⟩
def y_La_gather : MethodName := ⟨R_La, "gather", "(LThresholdBench;[J)I"⟩
def y_La_holds : MethodName := ⟨R_La, "holds", "(LThresholdBench;[J)I"⟩
def y_La_law : MethodName := ⟨R_La, "law", "([I)Z"⟩
def y_La_message : MethodName := ⟨R_La, "message", "(LThresholdBench;[J)I"⟩
def y_La_other : MethodName := ⟨R_La, "other", "(LThresholdBench;I)I"⟩
def y_La_right : MethodName := ⟨R_La, "right", "(LThresholdBench;I[J)I"⟩
def y_La_share : MethodName := ⟨R_La, "share", "(LThresholdBench;I)I"⟩
def y_Mo_init : MethodName := ⟨R_Mo, "<init>", "()V"⟩
def y_Mo_about : MethodName := ⟨R_Mo, "about", "(I)I"⟩
def y_Mo_carry : MethodName := ⟨R_Mo, "carry", "()V"⟩
def y_Mo_change : MethodName := ⟨R_Mo, "change", "(I)Z"⟩
def y_Mo_choose : MethodName := ⟨R_Mo, "choose", "(I)V"⟩
def y_Mo_commit : MethodName := ⟨R_Mo, "commit", "(I)V"⟩
def y_Mo_deal : MethodName := ⟨R_Mo, "deal", "(II)V"⟩
def y_Mo_fails : MethodName := ⟨R_Mo, "fails", "(ZI)Z"⟩
def y_Mo_feed : MethodName := ⟨R_Mo, "feed", "(IIIIII)I"⟩
def y_Mo_gather : MethodName := ⟨R_Mo, "gather", "()I"⟩
def y_Mo_hash : MethodName := ⟨R_Mo, "hash", "(I)V"⟩
def y_Mo_holds : MethodName := ⟨R_Mo, "holds", "()Z"⟩
def y_Mo_isAbove : MethodName := ⟨R_Mo, "isAbove", "(I)Z"⟩
def y_Mo_isOf : MethodName := ⟨R_Mo, "isOf", "(I)Z"⟩
def y_Mo_message : MethodName := ⟨R_Mo, "message", "()I"⟩
def y_Mo_mix : MethodName := ⟨R_Mo, "mix", "(I)V"⟩
def y_Mo_noGiver : MethodName := ⟨R_Mo, "noGiver", "(I)Z"⟩
def y_Mo_noSet : MethodName := ⟨R_Mo, "noSet", "()V"⟩
def y_Mo_none : MethodName := ⟨R_Mo, "none", "(I)Z"⟩
def y_Mo_other : MethodName := ⟨R_Mo, "other", "(I)V"⟩
def y_Mo_output : MethodName := ⟨R_Mo, "output", "(I)I"⟩
def y_Mo_reduce : MethodName := ⟨R_Mo, "reduce", "(I)V"⟩
def y_Mo_right : MethodName := ⟨R_Mo, "right", "(I)Z"⟩
def y_Mo_share : MethodName := ⟨R_Mo, "share", "(I)V"⟩
def y_Mo_show : MethodName := ⟨R_Mo, "show", "(II)I"⟩
def y_Mo_tell : MethodName := ⟨R_Mo, "tell", "(I)V"⟩
def y_Mo_thrown : MethodName := ⟨R_Mo, "thrown", "()I"⟩
def y_Mo_turned : MethodName := ⟨R_Mo, "turned", "(II)I"⟩
def y_Mo_used : MethodName := ⟨R_Mo, "used", "()I"⟩
def y_Arr_fill : MethodName := ⟨R_Arr, "fill", "([II)V"⟩
def AW0 : List Cond := [.methodLink R_Row 1 objectInit,
  .instanceMethod objectInit,
  .code objectInit ⟨#[0xb1]⟩ 1 none,
  .arrayClass .byte,
  .fieldLink R_Row 7 "ThresholdBench$Row" "bytes" "[B",
  .fieldLink R_Row 13 "ThresholdBench$Row" "length" "I",
  .code y_Row_putPart prog_7_method_5_code 5 (none),
  .methodLink R_Row 17 y_Row_putPart,
  .instanceMethod y_Row_putPart,
  .selects R_Row y_Row_putPart y_Row_putPart,
  .initialized R_Row,
  .methodLink R_Poi 1 objectInit,
  .arrayClass .long,
  .fieldLink R_Poi 9 "ThresholdBench$Point" "x" "[J",
  .fieldLink R_Poi 15 "ThresholdBench$Point" "y" "[J",
  .fieldLink R_Poi 18 "ThresholdBench$Point" "z" "[J",
  .fieldLink R_Poi 21 "ThresholdBench$Point" "zero" "Z",
  .methodLink R_Ter 3 objectInit,
  .classLink R_Ter 9 R_Poi,
  .instantiable R_Poi 4,
  .initialized R_Poi,
  .code y_Poi_init prog_6_method_1_code 1 (none),
  .methodLink R_Ter 11 y_Poi_init,
  .instanceMethod y_Poi_init,
  .fieldLink R_Ter 12 "ThresholdBench$Term" "base" "LThresholdBench$Point;",
  .arrayClass .int,
  .fieldLink R_Ter 18 "ThresholdBench$Term" "factor" "[I",
  .methodLink R_Par 3 objectInit,
  .fieldLink R_Par 9 "ThresholdBench$Participant" "dealt" "[I",
  .fieldLink R_Par 15 "ThresholdBench$Participant" "secret" "[I",
  .fieldLink R_Par 18 "ThresholdBench$Participant" "hiding" "[I",
  .fieldLink R_Par 21 "ThresholdBench$Participant" "binding" "[I",
  .classLink R_Par 24 R_Poi,
  .methodLink R_Par 26 y_Poi_init,
  .fieldLink R_Par 27 "ThresholdBench$Participant" "key" "LThresholdBench$Point;",
  .fieldLink R_Par 31 "ThresholdBench$Participant" "hidingPoint" "LThresholdBench$Point;",
  .fieldLink R_Par 34 "ThresholdBench$Participant" "bindingPoint" "LThresholdBench$Point;",
  .methodLink R_Sca 3 objectInit,
  .fieldLink R_Sca 11 "ThresholdBench$Scalars" "wide" "[I",
  .fieldLink R_Sca 15 "ThresholdBench$Scalars" "high" "[I",
  .methodLink R_Fie 5 objectInit,
  .fieldLink R_Fie 11 "ThresholdBench$Field" "wide" "[J",
  .fieldLink R_Fie 15 "ThresholdBench$Field" "probe" "[J",
  .fieldLink R_Fie 18 "ThresholdBench$Field" "power" "[J",
  .fieldLink R_Fie 21 "ThresholdBench$Field" "ones2" "[J",
  .fieldLink R_Fie 24 "ThresholdBench$Field" "ones3" "[J",
  .fieldLink R_Fie 27 "ThresholdBench$Field" "ones22" "[J",
  .fieldLink R_Fie 30 "ThresholdBench$Field" "ones44" "[J",
  .fieldLink R_Fie 33 "ThresholdBench$Field" "ones" "[J",
  .methodLink R_Sha 1 objectInit,
  .fieldLink R_Sha 9 "ThresholdBench$Sha" "state" "[I",
  .fieldLink R_Sha 13 "ThresholdBench$Sha" "schedule" "[I",
  .methodLink R_Dig 3 objectInit,
  .classLink R_Dig 9 R_Sha,
  .instantiable R_Sha 3,
  .initialized R_Sha,
  .code y_Sha_init prog_9_method_1_code 1 (none),
  .methodLink R_Dig 11 y_Sha_init,
  .instanceMethod y_Sha_init,
  .fieldLink R_Dig 12 "ThresholdBench$Digests" "sha" "LThresholdBench$Sha;",
  .classLink R_Dig 18 R_Row,
  .instantiable R_Row 2,
  .code y_Row_init prog_7_method_1_code 2 (none),
  .methodLink R_Dig 20 y_Row_init,
  .instanceMethod y_Row_init,
  .fieldLink R_Dig 23 "ThresholdBench$Digests" "input" "LThresholdBench$Row;",
  .fieldLink R_Dig 27 "ThresholdBench$Digests" "list" "LThresholdBench$Row;",
  .fieldLink R_Dig 30 "ThresholdBench$Digests" "start" "LThresholdBench$Row;",
  .fieldLink R_Dig 33 "ThresholdBench$Digests" "expanded" "LThresholdBench$Row;",
  .methodLink R_Sig 3 objectInit,
  .classLink R_Sig 9 R_Poi,
  .methodLink R_Sig 11 y_Poi_init,
  .fieldLink R_Sig 12 "ThresholdBench$Signing" "commitment" "LThresholdBench$Point;",
  .fieldLink R_Sig 18 "ThresholdBench$Signing" "challenge" "[I",
  .classLink R_Sig 22 "[[I",
  .fieldLink R_Sig 24 "ThresholdBench$Signing" "factors" "[[I",
  .fieldLink R_Sig 27 "ThresholdBench$Signing" "weights" "[[I",
  .fieldLink R_Sig 30 "ThresholdBench$Signing" "shares" "[[I",
  .methodLink R_Cur 3 objectInit,
  .classLink R_Cur 9 R_Fie,
  .instantiable R_Fie 8,
  .initialized R_Fie,
  .code y_Fie_init prog_4_method_1_code 1 (none),
  .methodLink R_Cur 11 y_Fie_init,
  .instanceMethod y_Fie_init,
  .fieldLink R_Cur 12 "ThresholdBench$Curve" "field" "LThresholdBench$Field;",
  .fieldLink R_Cur 18 "ThresholdBench$Curve" "a" "[J",
  .fieldLink R_Cur 22 "ThresholdBench$Curve" "b" "[J",
  .fieldLink R_Cur 25 "ThresholdBench$Curve" "c" "[J",
  .fieldLink R_Cur 28 "ThresholdBench$Curve" "d" "[J",
  .fieldLink R_Cur 31 "ThresholdBench$Curve" "e" "[J",
  .fieldLink R_Cur 34 "ThresholdBench$Curve" "words" "[I",
  .classLink R_Cur 38 R_Poi,
  .methodLink R_Cur 40 y_Poi_init,
  .fieldLink R_Cur 41 "ThresholdBench$Curve" "tooth" "LThresholdBench$Point;",
  .classLink R_Cur 45 R_Ter,
  .fieldLink R_Cur 47 "ThresholdBench$Curve" "terms" "[LThresholdBench$Term;",
  .instantiable R_Ter 2,
  .initialized R_Ter,
  .code y_Ter_init prog_11_method_1_code 1 (none),
  .methodLink R_Cur 51 y_Ter_init,
  .instanceMethod y_Ter_init,
  .methodLink R_TB 3 objectInit,
  .classLink R_TB 9 R_Row,
  .methodLink R_TB 11 y_Row_init,
  .fieldLink R_TB 14 "ThresholdBench" "tape" "LThresholdBench$Row;",
  .fieldLink R_TB 18 "ThresholdBench" "taken" "LThresholdBench$Row;",
  .fieldLink R_TB 21 "ThresholdBench" "text" "LThresholdBench$Row;",
  .fieldLink R_TB 24 "ThresholdBench" "shown" "LThresholdBench$Row;",
  .classLink R_TB 27 R_Par,
  .fieldLink R_TB 29 "ThresholdBench" "participants" "[LThresholdBench$Participant;",
  .classLink R_TB 33 R_Poi,
  .fieldLink R_TB 35 "ThresholdBench" "coefficientPoints" "[LThresholdBench$Point;",
  .classLink R_TB 39 R_Sig,
  .instantiable R_Sig 7,
  .initialized R_Sig,
  .code y_Sig_init prog_10_method_1_code 1 (none),
  .methodLink R_TB 41 y_Sig_init,
  .instanceMethod y_Sig_init,
  .fieldLink R_TB 42 "ThresholdBench" "signing" "LThresholdBench$Signing;",
  .fieldLink R_TB 46 "ThresholdBench" "spare" "LThresholdBench$Signing;",
  .classLink R_TB 49 R_Sca,
  .instantiable R_Sca 2,
  .initialized R_Sca,
  .code y_Sca_init prog_8_method_1_code 1 (none),
  .methodLink R_TB 51 y_Sca_init,
  .instanceMethod y_Sca_init,
  .fieldLink R_TB 52 "ThresholdBench" "scalars" "LThresholdBench$Scalars;",
  .classLink R_TB 56 R_Cur,
  .instantiable R_Cur 10,
  .initialized R_Cur,
  .code y_Cur_init prog_2_method_1_code 2 (none),
  .methodLink R_TB 58 y_Cur_init,
  .instanceMethod y_Cur_init,
  .fieldLink R_TB 59 "ThresholdBench" "curve" "LThresholdBench$Curve;",
  .classLink R_TB 63 R_Dig,
  .instantiable R_Dig 5,
  .initialized R_Dig,
  .code y_Dig_init prog_3_method_1_code 1 (none),
  .methodLink R_TB 65 y_Dig_init,
  .instanceMethod y_Dig_init,
  .fieldLink R_TB 66 "ThresholdBench" "digests" "LThresholdBench$Digests;",
  .classLink R_TB 70 "[[I",
  .fieldLink R_TB 72 "ThresholdBench" "drawn" "[[I",
  .fieldLink R_TB 75 "ThresholdBench" "first" "[I",
  .fieldLink R_TB 79 "ThresholdBench" "second" "[I",
  .methodLink R_TB 82 y_Poi_init,
  .fieldLink R_TB 83 "ThresholdBench" "left" "LThresholdBench$Point;",
  .fieldLink R_TB 87 "ThresholdBench" "otherSide" "LThresholdBench$Point;",
  .instantiable R_Par 7,
  .initialized R_Par,
  .code y_Par_init prog_5_method_1_code 1 (none),
  .methodLink R_TB 90 y_Par_init,
  .instanceMethod y_Par_init,
  .code y_Row_put prog_7_method_3_code 2 (none),
  .methodLink R_TB 301 y_Row_put,
  .instanceMethod y_Row_put,
  .selects R_Row y_Row_put y_Row_put,
  .fieldLink R_TB 91 "ThresholdBench$Row" "length" "I",
  .code y_TB_feedWord prog_1_method_16_code 4 (none),
  .methodLink R_TB 95 y_TB_feedWord,
  .instanceMethod y_TB_feedWord,
  .selects R_TB y_TB_feedWord y_TB_feedWord,
  .initialized R_TB,
  .code y_Row_clear prog_7_method_2_code 1 (none),
  .methodLink R_TB 105 y_Row_clear,
  .instanceMethod y_Row_clear,
  .selects R_Row y_Row_clear y_Row_clear,
  .fieldLink R_TB 225 "ThresholdBench$Signing" "set" "I",
  .fieldLink R_TB 228 "ThresholdBench$Signing" "given" "I",
  .code y_TB_takeTape prog_1_method_17_code 2 (none),
  .methodLink R_TB 102 y_TB_takeTape,
  .instanceMethod y_TB_takeTape,
  .selects R_TB y_TB_takeTape y_TB_takeTape,
  .code y_Row_putRow prog_7_method_4_code 2 (none),
  .methodLink R_TB 108 y_Row_putRow,
  .instanceMethod y_Row_putRow,
  .selects R_Row y_Row_putRow y_Row_putRow,
  .code y_TB_endSet prog_1_method_18_code 1 (none),
  .methodLink R_TB 112 y_TB_endSet,
  .instanceMethod y_TB_endSet,
  .selects R_TB y_TB_endSet y_TB_endSet,
  .fieldLink R_TB 126 "ThresholdBench" "size" "I",
  .classLink R_TB 304 "java/lang/IllegalStateException",
  .initialized "java/lang/IllegalStateException",
  .classLink R_TB 99 "java/lang/IllegalArgumentException",
  .initialized "java/lang/IllegalArgumentException",
  .code y_TB_drawCoefficients prog_1_method_27_code 3 (some .boolean),
  .methodLink R_TB 115 y_TB_drawCoefficients,
  .instanceMethod y_TB_drawCoefficients,
  .selects R_TB y_TB_drawCoefficients y_TB_drawCoefficients,
  .code y_TB_requireDealt prog_1_method_19_code 1 (none),
  .methodLink R_TB 159 y_TB_requireDealt,
  .instanceMethod y_TB_requireDealt,
  .selects R_TB y_TB_requireDealt y_TB_requireDealt,
  .code y_TB_requireSet prog_1_method_20_code 1 (none),
  .methodLink R_TB 235 y_TB_requireSet,
  .instanceMethod y_TB_requireSet,
  .selects R_TB y_TB_requireSet y_TB_requireSet,
  .code y_Sha_addToState prog_9_method_9_code 6 (none),
  .methodLink R_Sha 66 y_Sha_addToState,
  .instanceMethod y_Sha_addToState,
  .selects R_Sha y_Sha_addToState y_Sha_addToState,
  .code y_Arr_fill prog_26_method_103_code 4 (none),
  .methodLink R_Sha 25 y_Arr_fill,
  .static y_Arr_fill,
  .initialized R_Arr,
  .fieldLink R_Sha 63 "ThresholdBench$Sha" "ROUND" "[I",
  .fieldLink R_Sha 31 "ThresholdBench$Sha" "taken" "I",
  .code y_Sha_compress prog_9_method_8_code 13 (none),
  .methodLink R_Sha 35 y_Sha_compress,
  .instanceMethod y_Sha_compress,
  .selects R_Sha y_Sha_compress y_Sha_compress,
  .fieldLink R_Sha 16 "ThresholdBench$Sha" "START" "[I",
  .methodLink R_Sha 19 arraycopyName,
  .native arraycopyName,
  .static arraycopyName,
  .initialized "java/lang/System",
  .fieldLink R_Sha 38 "ThresholdBench$Row" "length" "I",
  .code y_Sha_takeByte prog_9_method_3_code 3 (none),
  .methodLink R_Sha 47 y_Sha_takeByte,
  .instanceMethod y_Sha_takeByte,
  .selects R_Sha y_Sha_takeByte y_Sha_takeByte,
  .methodLink R_Sha 60 y_Row_put,
  .code y_Sha_begin prog_9_method_2_code 1 (none),
  .methodLink R_Dig 36 y_Sha_begin,
  .instanceMethod y_Sha_begin,
  .selects R_Sha y_Sha_begin y_Sha_begin,
  .code y_Sha_takeRow prog_9_method_4_code 3 (none),
  .methodLink R_Dig 39 y_Sha_takeRow,
  .instanceMethod y_Sha_takeRow,
  .selects R_Sha y_Sha_takeRow y_Sha_takeRow,
  .code y_Sha_end prog_9_method_7_code 6 (none),
  .methodLink R_Dig 43 y_Sha_end,
  .instanceMethod y_Sha_end,
  .selects R_Sha y_Sha_end y_Sha_end,
  .code y_TB_isParticipant prog_1_method_23_code 2 (some .boolean),
  .methodLink R_TB 307 y_TB_isParticipant,
  .instanceMethod y_TB_isParticipant,
  .selects R_TB y_TB_isParticipant y_TB_isParticipant,
  .fieldLink R_TB 123 "ThresholdBench" "threshold" "I",
  .fieldLink R_TB 129 "ThresholdBench" "committed" "I",
  .code y_TB_isIn prog_1_method_24_code 3 (some .boolean),
  .methodLink R_TB 270 y_TB_isIn,
  .instanceMethod y_TB_isIn,
  .selects R_TB y_TB_isIn y_TB_isIn,
  .code y_TB_isThere prog_1_method_26_code 3 (some .boolean),
  .methodLink R_TB 286 y_TB_isThere,
  .instanceMethod y_TB_isThere,
  .selects R_TB y_TB_isThere y_TB_isThere,
  .code y_Dig_plain prog_3_method_2_code 3 (none),
  .methodLink R_TB 293 y_Dig_plain,
  .instanceMethod y_Dig_plain,
  .selects R_Dig y_Dig_plain y_Dig_plain,
  .fieldLink R_Mo 176 "ThresholdBenchModel" "thrown" "I",
  .fieldLink R_Mo 274 "ThresholdBenchModel" "taped" "I",
  .fieldLink R_Mo 277 "ThresholdBenchModel" "set" "I",
  .fieldLink R_Mo 280 "ThresholdBenchModel" "given" "I",
  .fieldLink R_Mo 307 "ThresholdBenchModel" "many" "I",
  .code y_Mo_fails prog_14_method_3_code 3 (some .boolean),
  .methodLink R_Mo 287 y_Mo_fails,
  .instanceMethod y_Mo_fails,
  .selects R_Mo y_Mo_fails y_Mo_fails,
  .initialized R_Mo,
  .code y_Mo_used prog_14_method_37_code 2 (some .int),
  .methodLink R_Mo 283 y_Mo_used,
  .instanceMethod y_Mo_used,
  .selects R_Mo y_Mo_used y_Mo_used,
  .code y_Mo_none prog_14_method_42_code 2 (some .boolean),
  .methodLink R_Mo 322 y_Mo_none,
  .instanceMethod y_Mo_none,
  .selects R_Mo y_Mo_none y_Mo_none,
  .code y_Mo_noGiver prog_14_method_55_code 2 (some .boolean),
  .methodLink R_Mo 362 y_Mo_noGiver,
  .instanceMethod y_Mo_noGiver,
  .selects R_Mo y_Mo_noGiver y_Mo_noGiver,
  .fieldLink R_Mo 262 "ThresholdBenchModel" "messageSize" "I",
  .code y_Mo_noSet prog_14_method_38_code 1 (none),
  .methodLink R_Mo 291 y_Mo_noSet,
  .instanceMethod y_Mo_noSet,
  .selects R_Mo y_Mo_noSet y_Mo_noSet,
  .fieldLink R_Mo 139 "ThresholdBenchModel" "tape" "[B",
  .fieldLink R_Mo 164 "ThresholdBenchModel" "state" "[I",
  .code y_Mo_turned prog_14_method_26_code 2 (some .int),
  .methodLink R_Mo 250 y_Mo_turned,
  .static y_Mo_turned,
  .fieldLink R_Mo 71 "ThresholdBenchModel" "roundNumbers" "[I",
  .fieldLink R_Mo 167 "ThresholdBenchModel" "rows" "[I",
  .fieldLink R_Mo 152 "ThresholdBenchModel" "block" "[B",
  .constant R_Mo 239 (1779033703),
  .constant R_Mo 240 (-1150833019),
  .constant R_Mo 241 (1013904242),
  .constant R_Mo 242 (-1521486534),
  .constant R_Mo 243 (1359893119),
  .constant R_Mo 244 (-1694144372),
  .constant R_Mo 245 (528734635),
  .constant R_Mo 246 (1541459225),
  .code y_Mo_mix prog_14_method_28_code 13 (none),
  .methodLink R_Mo 247 y_Mo_mix,
  .instanceMethod y_Mo_mix,
  .selects R_Mo y_Mo_mix y_Mo_mix,
  .fieldLink R_Mo 155 "ThresholdBenchModel" "sha" "[B",
  .fieldLink R_Mo 268 "ThresholdBenchModel" "outSize" "I",
  .code y_Mo_hash prog_14_method_27_code 5 (none),
  .methodLink R_Mo 256 y_Mo_hash,
  .instanceMethod y_Mo_hash,
  .selects R_Mo y_Mo_hash y_Mo_hash,
  .code y_Mo_tell prog_14_method_33_code 2 (none),
  .methodLink R_Mo 271 y_Mo_tell,
  .instanceMethod y_Mo_tell,
  .selects R_Mo y_Mo_tell y_Mo_tell,
  .fieldLink R_Mo 146 "ThresholdBenchModel" "out" "[B",
  .code y_Mo_isOf prog_14_method_64_code 2 (some .boolean),
  .methodLink R_Mo 378 y_Mo_isOf,
  .instanceMethod y_Mo_isOf,
  .selects R_Mo y_Mo_isOf y_Mo_isOf,
  .fieldLink R_Mo 304 "ThresholdBenchModel" "threshold" "I",
  .fieldLink R_Mo 310 "ThresholdBenchModel" "committed" "I",
  .fieldLink R_Mo 126 "ThresholdBenchModel" "product" "[J",
  .constantLong R_Mo 170 (65535),
  .fieldLink R_Mo 122 "ThresholdBenchModel" "v" "[J",
  .code y_Mo_carry prog_14_method_4_code 2 (none),
  .methodLink R_Mo 180 y_Mo_carry,
  .instanceMethod y_Mo_carry,
  .selects R_Mo y_Mo_carry y_Mo_carry,
  .code y_Mo_isAbove prog_14_method_6_code 3 (some .boolean),
  .methodLink R_Mo 183 y_Mo_isAbove,
  .instanceMethod y_Mo_isAbove,
  .selects R_Mo y_Mo_isAbove y_Mo_isAbove,
  .fieldLink R_Mo 129 "ThresholdBenchModel" "folds" "[J",
  .methodLink R_Mo 1 objectInit,
  .constant R_Mo 7 (1116352408),
  .constant R_Mo 8 (1899447441),
  .constant R_Mo 9 (-1245643825),
  .constant R_Mo 10 (-373957723),
  .constant R_Mo 11 (961987163),
  .constant R_Mo 12 (1508970993),
  .constant R_Mo 13 (-1841331548),
  .constant R_Mo 14 (-1424204075),
  .constant R_Mo 15 (-670586216),
  .constant R_Mo 16 (310598401),
  .constant R_Mo 17 (607225278),
  .constant R_Mo 18 (1426881987),
  .constant R_Mo 19 (1925078388),
  .constant R_Mo 20 (-2132889090),
  .constant R_Mo 21 (-1680079193),
  .constant R_Mo 22 (-1046744716),
  .constant R_Mo 23 (-459576895),
  .constant R_Mo 24 (-272742522),
  .constant R_Mo 25 (264347078),
  .constant R_Mo 26 (604807628),
  .constant R_Mo 27 (770255983),
  .constant R_Mo 28 (1249150122),
  .constant R_Mo 29 (1555081692),
  .constant R_Mo 30 (1996064986),
  .constant R_Mo 31 (-1740746414),
  .constant R_Mo 32 (-1473132947),
  .constant R_Mo 33 (-1341970488),
  .constant R_Mo 34 (-1084653625),
  .constant R_Mo 35 (-958395405),
  .constant R_Mo 36 (-710438585),
  .constant R_Mo 37 (113926993),
  .constant R_Mo 38 (338241895),
  .constant R_Mo 39 (666307205),
  .constant R_Mo 40 (773529912),
  .constant R_Mo 41 (1294757372),
  .constant R_Mo 42 (1396182291),
  .constant R_Mo 43 (1695183700),
  .constant R_Mo 44 (1986661051),
  .constant R_Mo 45 (-2117940946),
  .constant R_Mo 46 (-1838011259),
  .constant R_Mo 47 (-1564481375),
  .constant R_Mo 48 (-1474664885),
  .constant R_Mo 49 (-1035236496),
  .constant R_Mo 50 (-949202525),
  .constant R_Mo 51 (-778901479),
  .constant R_Mo 52 (-694614492),
  .constant R_Mo 53 (-200395387),
  .constant R_Mo 54 (275423344),
  .constant R_Mo 55 (430227734),
  .constant R_Mo 56 (506948616),
  .constant R_Mo 57 (659060556),
  .constant R_Mo 58 (883997877),
  .constant R_Mo 59 (958139571),
  .constant R_Mo 60 (1322822218),
  .constant R_Mo 61 (1537002063),
  .constant R_Mo 62 (1747873779),
  .constant R_Mo 63 (1955562222),
  .constant R_Mo 64 (2024104815),
  .constant R_Mo 65 (-2067236844),
  .constant R_Mo 66 (-1933114872),
  .constant R_Mo 67 (-1866530822),
  .constant R_Mo 68 (-1538233109),
  .constant R_Mo 69 (-1090935817),
  .constant R_Mo 70 (-965641998),
  .constant R_Mo 77 (65535),
  .constant R_Mo 78 (65534),
  .constant R_Mo 79 (64559),
  .fieldLink R_Mo 80 "ThresholdBenchModel" "modulusP" "[I",
  .constant R_Mo 83 (47790),
  .constant R_Mo 84 (56550),
  .constant R_Mo 85 (44872),
  .constant R_Mo 86 (41019),
  .constant R_Mo 87 (49106),
  .constant R_Mo 88 (53302),
  .fieldLink R_Mo 89 "ThresholdBenchModel" "modulusQ" "[I",
  .constant R_Mo 92 (63964),
  .constant R_Mo 93 (48044),
  .constant R_Mo 94 (52871),
  .constant R_Mo 95 (64731),
  .constant R_Mo 96 (33115),
  .fieldLink R_Mo 97 "ThresholdBenchModel" "baseX" "[I",
  .constant R_Mo 100 (55927),
  .constant R_Mo 101 (50277),
  .constant R_Mo 102 (64508),
  .constant R_Mo 103 (64791),
  .constant R_Mo 104 (46152),
  .constant R_Mo 105 (42629),
  .constant R_Mo 106 (40007),
  .constant R_Mo 107 (53391),
  .constant R_Mo 108 (64272),
  .constant R_Mo 109 (54456),
  .fieldLink R_Mo 110 "ThresholdBenchModel" "baseY" "[I",
  .fieldLink R_Mo 113 "ThresholdBenchModel" "context" "[I",
  .fieldLink R_Mo 116 "ThresholdBenchModel" "tags" "[I",
  .fieldLink R_Mo 119 "ThresholdBenchModel" "tagAt" "[I",
  .arrayClass .boolean,
  .fieldLink R_Mo 132 "ThresholdBenchModel" "zero" "[Z",
  .fieldLink R_Mo 136 "ThresholdBenchModel" "isBelow" "[Z",
  .fieldLink R_Mo 143 "ThresholdBenchModel" "message" "[B",
  .fieldLink R_Mo 149 "ThresholdBenchModel" "list" "[B",
  .fieldLink R_Mo 158 "ThresholdBenchModel" "first" "[B",
  .fieldLink R_Mo 161 "ThresholdBenchModel" "asked" "[B",
  .code y_Mo_reduce prog_14_method_5_code 8 (none),
  .methodLink R_Mo 172 y_Mo_reduce,
  .instanceMethod y_Mo_reduce,
  .selects R_Mo y_Mo_reduce y_Mo_reduce,
  .code y_TB_deal prog_1_method_4_code 5 (none),
  .methodLink R_La 15 y_TB_deal,
  .instanceMethod y_TB_deal,
  .selects R_TB y_TB_deal y_TB_deal,
  .classLink R_La 13 "java/lang/IllegalArgumentException",
  .code y_TB_commit prog_1_method_6_code 3 (none),
  .methodLink R_La 27 y_TB_commit,
  .instanceMethod y_TB_commit,
  .selects R_TB y_TB_commit y_TB_commit,
  .classLink R_La 23 "java/lang/IllegalStateException",
  .code y_TB_choose prog_1_method_7_code 3 (none),
  .methodLink R_La 31 y_TB_choose,
  .instanceMethod y_TB_choose,
  .selects R_TB y_TB_choose y_TB_choose,
  .code y_TB_share prog_1_method_8_code 4 (none),
  .methodLink R_La 34 y_TB_share,
  .instanceMethod y_TB_share,
  .selects R_TB y_TB_share y_TB_share,
  .code y_TB_other prog_1_method_9_code 2 (none),
  .methodLink R_La 37 y_TB_other,
  .instanceMethod y_TB_other,
  .selects R_TB y_TB_other y_TB_other,
  .code y_TB_change prog_1_method_5_code 3 (some .boolean),
  .methodLink R_La 19 y_TB_change,
  .instanceMethod y_TB_change,
  .selects R_TB y_TB_change y_TB_change,
  .code y_TB_right prog_1_method_10_code 2 (some .boolean),
  .methodLink R_La 40 y_TB_right,
  .instanceMethod y_TB_right,
  .selects R_TB y_TB_right y_TB_right,
  .code y_TB_gather prog_1_method_11_code 3 (some .int),
  .methodLink R_La 43 y_TB_gather,
  .instanceMethod y_TB_gather,
  .selects R_TB y_TB_gather y_TB_gather,
  .code y_TB_holds prog_1_method_12_code 1 (some .boolean),
  .methodLink R_La 46 y_TB_holds,
  .instanceMethod y_TB_holds,
  .selects R_TB y_TB_holds y_TB_holds,
  .code y_TB_message prog_1_method_3_code 1 (some .int),
  .methodLink R_La 7 y_TB_message,
  .instanceMethod y_TB_message,
  .selects R_TB y_TB_message y_TB_message,
  .classLink R_La 8 R_TB,
  .instantiable R_TB 19,
  .code y_TB_init prog_1_method_1_code 2 (none),
  .methodLink R_La 50 y_TB_init,
  .instanceMethod y_TB_init,
  .classLink R_La 51 R_Mo,
  .instantiable R_Mo 34,
  .code y_Mo_init prog_14_method_1_code 7 (none),
  .methodLink R_La 53 y_Mo_init,
  .instanceMethod y_Mo_init,
  .code y_TB_feed prog_1_method_2_code 7 (some .int),
  .methodLink R_La 54 y_TB_feed,
  .instanceMethod y_TB_feed,
  .selects R_TB y_TB_feed y_TB_feed,
  .code y_Mo_feed prog_14_method_36_code 9 (some .int),
  .methodLink R_La 58 y_Mo_feed,
  .instanceMethod y_Mo_feed,
  .selects R_Mo y_Mo_feed y_Mo_feed,
  .codeWith y_La_message method_3_code 3 (some .int) [(0, 8, 11, 13)],
  .methodLink R_La 59 y_La_message,
  .static y_La_message,
  .initialized R_La,
  .code y_Mo_message prog_14_method_39_code 3 (some .int),
  .methodLink R_La 64 y_Mo_message,
  .instanceMethod y_Mo_message,
  .selects R_Mo y_Mo_message y_Mo_message,
  .code y_Mo_thrown prog_14_method_2_code 1 (some .int),
  .methodLink R_La 65 y_Mo_thrown,
  .instanceMethod y_Mo_thrown,
  .selects R_Mo y_Mo_thrown y_Mo_thrown,
  .codeWith y_La_deal method_4_code 4 (some .int) [(0, 6, 9, 13)],
  .methodLink R_La 68 y_La_deal,
  .static y_La_deal,
  .code y_Mo_deal prog_14_method_41_code 6 (none),
  .methodLink R_La 71 y_Mo_deal,
  .instanceMethod y_Mo_deal,
  .selects R_Mo y_Mo_deal y_Mo_deal,
  .codeWith y_La_change method_5_code 4 (some .int) [(0, 16, 19, 23), (0, 16, 22, 25), (0, 16, 25, 13)],
  .methodLink R_La 72 y_La_change,
  .static y_La_change,
  .code y_Mo_change prog_14_method_45_code 3 (some .boolean),
  .methodLink R_La 75 y_Mo_change,
  .instanceMethod y_Mo_change,
  .selects R_Mo y_Mo_change y_Mo_change,
  .codeWith y_La_commit method_6_code 3 (some .int) [(0, 5, 8, 23), (0, 5, 11, 25), (0, 5, 14, 13)],
  .methodLink R_La 76 y_La_commit,
  .static y_La_commit,
  .code y_Mo_commit prog_14_method_47_code 3 (none),
  .methodLink R_La 79 y_Mo_commit,
  .instanceMethod y_Mo_commit,
  .selects R_Mo y_Mo_commit y_Mo_commit,
  .codeWith y_La_choose method_7_code 3 (some .int) [(0, 5, 8, 23), (0, 5, 11, 13)],
  .methodLink R_La 80 y_La_choose,
  .static y_La_choose,
  .code y_Mo_choose prog_14_method_53_code 5 (none),
  .methodLink R_La 82 y_Mo_choose,
  .instanceMethod y_Mo_choose,
  .selects R_Mo y_Mo_choose y_Mo_choose,
  .codeWith y_La_share method_8_code 3 (some .int) [(0, 5, 8, 23), (0, 5, 11, 25), (0, 5, 14, 13)],
  .methodLink R_La 83 y_La_share,
  .static y_La_share,
  .code y_Mo_share prog_14_method_56_code 2 (none),
  .methodLink R_La 85 y_Mo_share,
  .instanceMethod y_Mo_share,
  .selects R_Mo y_Mo_share y_Mo_share,
  .codeWith y_La_other method_9_code 3 (some .int) [(0, 5, 8, 23), (0, 5, 11, 25), (0, 5, 14, 13)],
  .methodLink R_La 86 y_La_other,
  .static y_La_other,
  .code y_Mo_other prog_14_method_57_code 3 (none),
  .methodLink R_La 88 y_Mo_other,
  .instanceMethod y_Mo_other,
  .selects R_Mo y_Mo_other y_Mo_other,
  .codeWith y_La_right method_10_code 4 (some .int) [(0, 16, 19, 23), (0, 16, 22, 25), (0, 16, 25, 13)],
  .methodLink R_La 89 y_La_right,
  .static y_La_right,
  .code y_Mo_right prog_14_method_59_code 2 (some .boolean),
  .methodLink R_La 91 y_Mo_right,
  .instanceMethod y_Mo_right,
  .selects R_Mo y_Mo_right y_Mo_right,
  .codeWith y_La_gather method_11_code 3 (some .int) [(0, 8, 11, 23)],
  .methodLink R_La 92 y_La_gather,
  .static y_La_gather,
  .code y_Mo_gather prog_14_method_61_code 4 (some .int),
  .methodLink R_La 94 y_Mo_gather,
  .instanceMethod y_Mo_gather,
  .selects R_Mo y_Mo_gather y_Mo_gather,
  .codeWith y_La_holds method_12_code 3 (some .int) [(0, 15, 18, 23)],
  .methodLink R_La 95 y_La_holds,
  .static y_La_holds,
  .code y_Mo_holds prog_14_method_63_code 2 (some .boolean),
  .methodLink R_La 97 y_Mo_holds,
  .instanceMethod y_Mo_holds,
  .selects R_Mo y_Mo_holds y_Mo_holds,
  .code y_TB_show prog_1_method_13_code 3 (some .int),
  .methodLink R_La 98 y_TB_show,
  .instanceMethod y_TB_show,
  .selects R_TB y_TB_show y_TB_show,
  .code y_Mo_show prog_14_method_65_code 6 (some .int),
  .methodLink R_La 102 y_Mo_show,
  .instanceMethod y_Mo_show,
  .selects R_Mo y_Mo_show y_Mo_show,
  .code y_TB_output prog_1_method_14_code 2 (some .int),
  .methodLink R_La 103 y_TB_output,
  .instanceMethod y_TB_output,
  .selects R_TB y_TB_output y_TB_output,
  .code y_Mo_output prog_14_method_66_code 2 (some .int),
  .methodLink R_La 107 y_Mo_output,
  .instanceMethod y_Mo_output,
  .selects R_Mo y_Mo_output y_Mo_output,
  .code y_TB_about prog_1_method_15_code 2 (some .int),
  .methodLink R_La 108 y_TB_about,
  .instanceMethod y_TB_about,
  .selects R_TB y_TB_about y_TB_about,
  .code y_Mo_about prog_14_method_67_code 2 (some .int),
  .methodLink R_La 111 y_Mo_about,
  .instanceMethod y_Mo_about,
  .selects R_Mo y_Mo_about y_Mo_about,
  .lays R_TB "ThresholdBench" "tape" "LThresholdBench$Row;",
  .lays R_TB "ThresholdBench" "taken" "LThresholdBench$Row;",
  .laysFinal R_TB "ThresholdBench" "text" "LThresholdBench$Row;",
  .laysFinal R_TB "ThresholdBench" "shown" "LThresholdBench$Row;",
  .lays R_TB "ThresholdBench" "threshold" "I",
  .lays R_TB "ThresholdBench" "size" "I",
  .lays R_TB "ThresholdBench" "committed" "I",
  .laysFinal R_TB "ThresholdBench" "participants" "[LThresholdBench$Participant;",
  .laysFinal R_TB "ThresholdBench" "coefficientPoints" "[LThresholdBench$Point;",
  .lays R_TB "ThresholdBench" "signing" "LThresholdBench$Signing;",
  .lays R_TB "ThresholdBench" "spare" "LThresholdBench$Signing;",
  .laysFinal R_TB "ThresholdBench" "scalars" "LThresholdBench$Scalars;",
  .laysFinal R_TB "ThresholdBench" "curve" "LThresholdBench$Curve;",
  .laysFinal R_TB "ThresholdBench" "digests" "LThresholdBench$Digests;",
  .laysFinal R_TB "ThresholdBench" "drawn" "[[I",
  .laysFinal R_TB "ThresholdBench" "first" "[I",
  .laysFinal R_TB "ThresholdBench" "second" "[I",
  .laysFinal R_TB "ThresholdBench" "left" "LThresholdBench$Point;",
  .laysFinal R_TB "ThresholdBench" "otherSide" "LThresholdBench$Point;",
  .laysFinal R_Row "ThresholdBench$Row" "bytes" "[B",
  .lays R_Row "ThresholdBench$Row" "length" "I",
  .lays R_Sig "ThresholdBench$Signing" "set" "I",
  .lays R_Sig "ThresholdBench$Signing" "given" "I",
  .laysFinal R_Sig "ThresholdBench$Signing" "commitment" "LThresholdBench$Point;",
  .laysFinal R_Sig "ThresholdBench$Signing" "challenge" "[I",
  .laysFinal R_Sig "ThresholdBench$Signing" "factors" "[[I",
  .laysFinal R_Sig "ThresholdBench$Signing" "weights" "[[I",
  .laysFinal R_Sig "ThresholdBench$Signing" "shares" "[[I",
  .laysFinal R_Sca "ThresholdBench$Scalars" "wide" "[I",
  .laysFinal R_Sca "ThresholdBench$Scalars" "high" "[I",
  .laysFinal R_Fie "ThresholdBench$Field" "wide" "[J",
  .laysFinal R_Fie "ThresholdBench$Field" "probe" "[J",
  .laysFinal R_Fie "ThresholdBench$Field" "power" "[J",
  .laysFinal R_Fie "ThresholdBench$Field" "ones2" "[J",
  .laysFinal R_Fie "ThresholdBench$Field" "ones3" "[J",
  .laysFinal R_Fie "ThresholdBench$Field" "ones22" "[J",
  .laysFinal R_Fie "ThresholdBench$Field" "ones44" "[J",
  .laysFinal R_Fie "ThresholdBench$Field" "ones" "[J",
  .laysFinal R_Cur "ThresholdBench$Curve" "field" "LThresholdBench$Field;",
  .laysFinal R_Cur "ThresholdBench$Curve" "a" "[J",
  .laysFinal R_Cur "ThresholdBench$Curve" "b" "[J",
  .laysFinal R_Cur "ThresholdBench$Curve" "c" "[J",
  .laysFinal R_Cur "ThresholdBench$Curve" "d" "[J",
  .laysFinal R_Cur "ThresholdBench$Curve" "e" "[J",
  .laysFinal R_Cur "ThresholdBench$Curve" "words" "[I",
  .laysFinal R_Cur "ThresholdBench$Curve" "tooth" "LThresholdBench$Point;",
  .laysFinal R_Cur "ThresholdBench$Curve" "terms" "[LThresholdBench$Term;",
  .lays R_Cur "ThresholdBench$Curve" "termCount" "I",
  .laysFinal R_Poi "ThresholdBench$Point" "x" "[J",
  .laysFinal R_Poi "ThresholdBench$Point" "y" "[J",
  .laysFinal R_Poi "ThresholdBench$Point" "z" "[J",
  .lays R_Poi "ThresholdBench$Point" "zero" "Z",
  .laysFinal R_Ter "ThresholdBench$Term" "base" "LThresholdBench$Point;",
  .laysFinal R_Ter "ThresholdBench$Term" "factor" "[I",
  .laysFinal R_Par "ThresholdBench$Participant" "dealt" "[I",
  .laysFinal R_Par "ThresholdBench$Participant" "secret" "[I",
  .laysFinal R_Par "ThresholdBench$Participant" "hiding" "[I",
  .laysFinal R_Par "ThresholdBench$Participant" "binding" "[I",
  .laysFinal R_Par "ThresholdBench$Participant" "key" "LThresholdBench$Point;",
  .laysFinal R_Par "ThresholdBench$Participant" "hidingPoint" "LThresholdBench$Point;",
  .laysFinal R_Par "ThresholdBench$Participant" "bindingPoint" "LThresholdBench$Point;",
  .laysFinal R_Dig "ThresholdBench$Digests" "sha" "LThresholdBench$Sha;",
  .laysFinal R_Dig "ThresholdBench$Digests" "input" "LThresholdBench$Row;",
  .laysFinal R_Dig "ThresholdBench$Digests" "list" "LThresholdBench$Row;",
  .laysFinal R_Dig "ThresholdBench$Digests" "start" "LThresholdBench$Row;",
  .laysFinal R_Dig "ThresholdBench$Digests" "expanded" "LThresholdBench$Row;",
  .laysFinal R_Sha "ThresholdBench$Sha" "state" "[I",
  .laysFinal R_Sha "ThresholdBench$Sha" "schedule" "[I",
  .lays R_Sha "ThresholdBench$Sha" "taken" "I",
  .laysFinal R_Mo "ThresholdBenchModel" "roundNumbers" "[I",
  .laysFinal R_Mo "ThresholdBenchModel" "modulusP" "[I",
  .laysFinal R_Mo "ThresholdBenchModel" "modulusQ" "[I",
  .laysFinal R_Mo "ThresholdBenchModel" "baseX" "[I",
  .laysFinal R_Mo "ThresholdBenchModel" "baseY" "[I",
  .laysFinal R_Mo "ThresholdBenchModel" "context" "[I",
  .laysFinal R_Mo "ThresholdBenchModel" "tags" "[I",
  .laysFinal R_Mo "ThresholdBenchModel" "tagAt" "[I",
  .lays R_Mo "ThresholdBenchModel" "thrown" "I",
  .laysFinal R_Mo "ThresholdBenchModel" "v" "[J",
  .laysFinal R_Mo "ThresholdBenchModel" "product" "[J",
  .laysFinal R_Mo "ThresholdBenchModel" "folds" "[J",
  .laysFinal R_Mo "ThresholdBenchModel" "zero" "[Z",
  .lays R_Mo "ThresholdBenchModel" "powers" "Z",
  .lays R_Mo "ThresholdBenchModel" "threshold" "I",
  .lays R_Mo "ThresholdBenchModel" "many" "I",
  .lays R_Mo "ThresholdBenchModel" "committed" "I",
  .lays R_Mo "ThresholdBenchModel" "set" "I",
  .lays R_Mo "ThresholdBenchModel" "given" "I",
  .laysFinal R_Mo "ThresholdBenchModel" "isBelow" "[Z",
  .laysFinal R_Mo "ThresholdBenchModel" "tape" "[B",
  .laysFinal R_Mo "ThresholdBenchModel" "message" "[B",
  .laysFinal R_Mo "ThresholdBenchModel" "out" "[B",
  .laysFinal R_Mo "ThresholdBenchModel" "list" "[B",
  .laysFinal R_Mo "ThresholdBenchModel" "block" "[B",
  .laysFinal R_Mo "ThresholdBenchModel" "sha" "[B",
  .laysFinal R_Mo "ThresholdBenchModel" "first" "[B",
  .laysFinal R_Mo "ThresholdBenchModel" "asked" "[B",
  .laysFinal R_Mo "ThresholdBenchModel" "state" "[I",
  .laysFinal R_Mo "ThresholdBenchModel" "rows" "[I",
  .lays R_Mo "ThresholdBenchModel" "taped" "I",
  .lays R_Mo "ThresholdBenchModel" "messageSize" "I",
  .lays R_Mo "ThresholdBenchModel" "outSize" "I",
  .lays R_Mo "ThresholdBenchModel" "listSize" "I"]
def AX_0 : List Cond := (Bundle.ownAtoms0 R_TB 306 "java/lang/IllegalStateException" ["java/lang/RuntimeException", "java/lang/Exception"]).filter goodWord
def AX_1 : List Cond := (Bundle.ownAtoms0 R_TB 101 "java/lang/IllegalArgumentException" ["java/lang/RuntimeException", "java/lang/Exception"]).filter goodWord
def AW : List Cond := AW0 ++ (AX_0 ++ AX_1)
theorem m_0 : (.methodLink R_Row 1 objectInit : Cond) ∈ AW := List.mem_append_left _ (List.mem_of_getElem? (i := 0) rfl)
theorem m_1 : (.instanceMethod objectInit : Cond) ∈ AW := List.mem_append_left _ (List.mem_of_getElem? (i := 1) rfl)
theorem m_2 : (.code objectInit ⟨#[0xb1]⟩ 1 none : Cond) ∈ AW := List.mem_append_left _ (List.mem_of_getElem? (i := 2) rfl)
theorem m_3 : (.arrayClass .byte : Cond) ∈ AW := List.mem_append_left _ (List.mem_of_getElem? (i := 3) rfl)
theorem m_4 : (.fieldLink R_Row 7 "ThresholdBench$Row" "bytes" "[B" : Cond) ∈ AW := List.mem_append_left _ (List.mem_of_getElem? (i := 4) rfl)
theorem m_5 : (.fieldLink R_Row 13 "ThresholdBench$Row" "length" "I" : Cond) ∈ AW := List.mem_append_left _ (List.mem_of_getElem? (i := 5) rfl)
theorem m_6 : (.code y_Row_putPart prog_7_method_5_code 5 (none) : Cond) ∈ AW := List.mem_append_left _ (List.mem_of_getElem? (i := 6) rfl)
theorem m_7 : (.methodLink R_Row 17 y_Row_putPart : Cond) ∈ AW := List.mem_append_left _ (List.mem_of_getElem? (i := 7) rfl)
theorem m_8 : (.instanceMethod y_Row_putPart : Cond) ∈ AW := List.mem_append_left _ (List.mem_of_getElem? (i := 8) rfl)
theorem m_9 : (.selects R_Row y_Row_putPart y_Row_putPart : Cond) ∈ AW := List.mem_append_left _ (List.mem_of_getElem? (i := 9) rfl)
theorem m_10 : (.initialized R_Row : Cond) ∈ AW := List.mem_append_left _ (List.mem_of_getElem? (i := 10) rfl)
theorem m_11 : (.methodLink R_Poi 1 objectInit : Cond) ∈ AW := List.mem_append_left _ (List.mem_of_getElem? (i := 11) rfl)
theorem m_12 : (.arrayClass .long : Cond) ∈ AW := List.mem_append_left _ (List.mem_of_getElem? (i := 12) rfl)
theorem m_13 : (.fieldLink R_Poi 9 "ThresholdBench$Point" "x" "[J" : Cond) ∈ AW := List.mem_append_left _ (List.mem_of_getElem? (i := 13) rfl)
theorem m_14 : (.fieldLink R_Poi 15 "ThresholdBench$Point" "y" "[J" : Cond) ∈ AW := List.mem_append_left _ (List.mem_of_getElem? (i := 14) rfl)
theorem m_15 : (.fieldLink R_Poi 18 "ThresholdBench$Point" "z" "[J" : Cond) ∈ AW := List.mem_append_left _ (List.mem_of_getElem? (i := 15) rfl)
theorem m_16 : (.fieldLink R_Poi 21 "ThresholdBench$Point" "zero" "Z" : Cond) ∈ AW := List.mem_append_left _ (List.mem_of_getElem? (i := 16) rfl)
theorem m_17 : (.methodLink R_Ter 3 objectInit : Cond) ∈ AW := List.mem_append_left _ (List.mem_of_getElem? (i := 17) rfl)
theorem m_18 : (.classLink R_Ter 9 R_Poi : Cond) ∈ AW := List.mem_append_left _ (List.mem_of_getElem? (i := 18) rfl)
theorem m_19 : (.instantiable R_Poi 4 : Cond) ∈ AW := List.mem_append_left _ (List.mem_of_getElem? (i := 19) rfl)
theorem m_20 : (.initialized R_Poi : Cond) ∈ AW := List.mem_append_left _ (List.mem_of_getElem? (i := 20) rfl)
theorem m_21 : (.code y_Poi_init prog_6_method_1_code 1 (none) : Cond) ∈ AW := List.mem_append_left _ (List.mem_of_getElem? (i := 21) rfl)
theorem m_22 : (.methodLink R_Ter 11 y_Poi_init : Cond) ∈ AW := List.mem_append_left _ (List.mem_of_getElem? (i := 22) rfl)
theorem m_23 : (.instanceMethod y_Poi_init : Cond) ∈ AW := List.mem_append_left _ (List.mem_of_getElem? (i := 23) rfl)
theorem m_24 : (.fieldLink R_Ter 12 "ThresholdBench$Term" "base" "LThresholdBench$Point;" : Cond) ∈ AW := List.mem_append_left _ (List.mem_of_getElem? (i := 24) rfl)
theorem m_25 : (.arrayClass .int : Cond) ∈ AW := List.mem_append_left _ (List.mem_of_getElem? (i := 25) rfl)
theorem m_26 : (.fieldLink R_Ter 18 "ThresholdBench$Term" "factor" "[I" : Cond) ∈ AW := List.mem_append_left _ (List.mem_of_getElem? (i := 26) rfl)
theorem m_27 : (.methodLink R_Par 3 objectInit : Cond) ∈ AW := List.mem_append_left _ (List.mem_of_getElem? (i := 27) rfl)
theorem m_28 : (.fieldLink R_Par 9 "ThresholdBench$Participant" "dealt" "[I" : Cond) ∈ AW := List.mem_append_left _ (List.mem_of_getElem? (i := 28) rfl)
theorem m_29 : (.fieldLink R_Par 15 "ThresholdBench$Participant" "secret" "[I" : Cond) ∈ AW := List.mem_append_left _ (List.mem_of_getElem? (i := 29) rfl)
theorem m_30 : (.fieldLink R_Par 18 "ThresholdBench$Participant" "hiding" "[I" : Cond) ∈ AW := List.mem_append_left _ (List.mem_of_getElem? (i := 30) rfl)
theorem m_31 : (.fieldLink R_Par 21 "ThresholdBench$Participant" "binding" "[I" : Cond) ∈ AW := List.mem_append_left _ (List.mem_of_getElem? (i := 31) rfl)
theorem m_32 : (.classLink R_Par 24 R_Poi : Cond) ∈ AW := List.mem_append_left _ (List.mem_of_getElem? (i := 32) rfl)
theorem m_33 : (.methodLink R_Par 26 y_Poi_init : Cond) ∈ AW := List.mem_append_left _ (List.mem_of_getElem? (i := 33) rfl)
theorem m_34 : (.fieldLink R_Par 27 "ThresholdBench$Participant" "key" "LThresholdBench$Point;" : Cond) ∈ AW := List.mem_append_left _ (List.mem_of_getElem? (i := 34) rfl)
theorem m_35 : (.fieldLink R_Par 31 "ThresholdBench$Participant" "hidingPoint" "LThresholdBench$Point;" : Cond) ∈ AW := List.mem_append_left _ (List.mem_of_getElem? (i := 35) rfl)
theorem m_36 : (.fieldLink R_Par 34 "ThresholdBench$Participant" "bindingPoint" "LThresholdBench$Point;" : Cond) ∈ AW := List.mem_append_left _ (List.mem_of_getElem? (i := 36) rfl)
theorem m_37 : (.methodLink R_Sca 3 objectInit : Cond) ∈ AW := List.mem_append_left _ (List.mem_of_getElem? (i := 37) rfl)
theorem m_38 : (.fieldLink R_Sca 11 "ThresholdBench$Scalars" "wide" "[I" : Cond) ∈ AW := List.mem_append_left _ (List.mem_of_getElem? (i := 38) rfl)
theorem m_39 : (.fieldLink R_Sca 15 "ThresholdBench$Scalars" "high" "[I" : Cond) ∈ AW := List.mem_append_left _ (List.mem_of_getElem? (i := 39) rfl)
theorem m_40 : (.methodLink R_Fie 5 objectInit : Cond) ∈ AW := List.mem_append_left _ (List.mem_of_getElem? (i := 40) rfl)
theorem m_41 : (.fieldLink R_Fie 11 "ThresholdBench$Field" "wide" "[J" : Cond) ∈ AW := List.mem_append_left _ (List.mem_of_getElem? (i := 41) rfl)
theorem m_42 : (.fieldLink R_Fie 15 "ThresholdBench$Field" "probe" "[J" : Cond) ∈ AW := List.mem_append_left _ (List.mem_of_getElem? (i := 42) rfl)
theorem m_43 : (.fieldLink R_Fie 18 "ThresholdBench$Field" "power" "[J" : Cond) ∈ AW := List.mem_append_left _ (List.mem_of_getElem? (i := 43) rfl)
theorem m_44 : (.fieldLink R_Fie 21 "ThresholdBench$Field" "ones2" "[J" : Cond) ∈ AW := List.mem_append_left _ (List.mem_of_getElem? (i := 44) rfl)
theorem m_45 : (.fieldLink R_Fie 24 "ThresholdBench$Field" "ones3" "[J" : Cond) ∈ AW := List.mem_append_left _ (List.mem_of_getElem? (i := 45) rfl)
theorem m_46 : (.fieldLink R_Fie 27 "ThresholdBench$Field" "ones22" "[J" : Cond) ∈ AW := List.mem_append_left _ (List.mem_of_getElem? (i := 46) rfl)
theorem m_47 : (.fieldLink R_Fie 30 "ThresholdBench$Field" "ones44" "[J" : Cond) ∈ AW := List.mem_append_left _ (List.mem_of_getElem? (i := 47) rfl)
theorem m_48 : (.fieldLink R_Fie 33 "ThresholdBench$Field" "ones" "[J" : Cond) ∈ AW := List.mem_append_left _ (List.mem_of_getElem? (i := 48) rfl)
theorem m_49 : (.methodLink R_Sha 1 objectInit : Cond) ∈ AW := List.mem_append_left _ (List.mem_of_getElem? (i := 49) rfl)
theorem m_50 : (.fieldLink R_Sha 9 "ThresholdBench$Sha" "state" "[I" : Cond) ∈ AW := List.mem_append_left _ (List.mem_of_getElem? (i := 50) rfl)
theorem m_51 : (.fieldLink R_Sha 13 "ThresholdBench$Sha" "schedule" "[I" : Cond) ∈ AW := List.mem_append_left _ (List.mem_of_getElem? (i := 51) rfl)
theorem m_52 : (.methodLink R_Dig 3 objectInit : Cond) ∈ AW := List.mem_append_left _ (List.mem_of_getElem? (i := 52) rfl)
theorem m_53 : (.classLink R_Dig 9 R_Sha : Cond) ∈ AW := List.mem_append_left _ (List.mem_of_getElem? (i := 53) rfl)
theorem m_54 : (.instantiable R_Sha 3 : Cond) ∈ AW := List.mem_append_left _ (List.mem_of_getElem? (i := 54) rfl)
theorem m_55 : (.initialized R_Sha : Cond) ∈ AW := List.mem_append_left _ (List.mem_of_getElem? (i := 55) rfl)
theorem m_56 : (.code y_Sha_init prog_9_method_1_code 1 (none) : Cond) ∈ AW := List.mem_append_left _ (List.mem_of_getElem? (i := 56) rfl)
theorem m_57 : (.methodLink R_Dig 11 y_Sha_init : Cond) ∈ AW := List.mem_append_left _ (List.mem_of_getElem? (i := 57) rfl)
theorem m_58 : (.instanceMethod y_Sha_init : Cond) ∈ AW := List.mem_append_left _ (List.mem_of_getElem? (i := 58) rfl)
theorem m_59 : (.fieldLink R_Dig 12 "ThresholdBench$Digests" "sha" "LThresholdBench$Sha;" : Cond) ∈ AW := List.mem_append_left _ (List.mem_of_getElem? (i := 59) rfl)
theorem m_60 : (.classLink R_Dig 18 R_Row : Cond) ∈ AW := List.mem_append_left _ (List.mem_of_getElem? (i := 60) rfl)
theorem m_61 : (.instantiable R_Row 2 : Cond) ∈ AW := List.mem_append_left _ (List.mem_of_getElem? (i := 61) rfl)
theorem m_62 : (.code y_Row_init prog_7_method_1_code 2 (none) : Cond) ∈ AW := List.mem_append_left _ (List.mem_of_getElem? (i := 62) rfl)
theorem m_63 : (.methodLink R_Dig 20 y_Row_init : Cond) ∈ AW := List.mem_append_left _ (List.mem_of_getElem? (i := 63) rfl)
theorem m_64 : (.instanceMethod y_Row_init : Cond) ∈ AW := List.mem_append_left _ (List.mem_of_getElem? (i := 64) rfl)
theorem m_65 : (.fieldLink R_Dig 23 "ThresholdBench$Digests" "input" "LThresholdBench$Row;" : Cond) ∈ AW := List.mem_append_left _ (List.mem_of_getElem? (i := 65) rfl)
theorem m_66 : (.fieldLink R_Dig 27 "ThresholdBench$Digests" "list" "LThresholdBench$Row;" : Cond) ∈ AW := List.mem_append_left _ (List.mem_of_getElem? (i := 66) rfl)
theorem m_67 : (.fieldLink R_Dig 30 "ThresholdBench$Digests" "start" "LThresholdBench$Row;" : Cond) ∈ AW := List.mem_append_left _ (List.mem_of_getElem? (i := 67) rfl)
theorem m_68 : (.fieldLink R_Dig 33 "ThresholdBench$Digests" "expanded" "LThresholdBench$Row;" : Cond) ∈ AW := List.mem_append_left _ (List.mem_of_getElem? (i := 68) rfl)
theorem m_69 : (.methodLink R_Sig 3 objectInit : Cond) ∈ AW := List.mem_append_left _ (List.mem_of_getElem? (i := 69) rfl)
theorem m_70 : (.classLink R_Sig 9 R_Poi : Cond) ∈ AW := List.mem_append_left _ (List.mem_of_getElem? (i := 70) rfl)
theorem m_71 : (.methodLink R_Sig 11 y_Poi_init : Cond) ∈ AW := List.mem_append_left _ (List.mem_of_getElem? (i := 71) rfl)
theorem m_72 : (.fieldLink R_Sig 12 "ThresholdBench$Signing" "commitment" "LThresholdBench$Point;" : Cond) ∈ AW := List.mem_append_left _ (List.mem_of_getElem? (i := 72) rfl)
theorem m_73 : (.fieldLink R_Sig 18 "ThresholdBench$Signing" "challenge" "[I" : Cond) ∈ AW := List.mem_append_left _ (List.mem_of_getElem? (i := 73) rfl)
theorem m_74 : (.classLink R_Sig 22 "[[I" : Cond) ∈ AW := List.mem_append_left _ (List.mem_of_getElem? (i := 74) rfl)
theorem m_75 : (.fieldLink R_Sig 24 "ThresholdBench$Signing" "factors" "[[I" : Cond) ∈ AW := List.mem_append_left _ (List.mem_of_getElem? (i := 75) rfl)
theorem m_76 : (.fieldLink R_Sig 27 "ThresholdBench$Signing" "weights" "[[I" : Cond) ∈ AW := List.mem_append_left _ (List.mem_of_getElem? (i := 76) rfl)
theorem m_77 : (.fieldLink R_Sig 30 "ThresholdBench$Signing" "shares" "[[I" : Cond) ∈ AW := List.mem_append_left _ (List.mem_of_getElem? (i := 77) rfl)
theorem m_78 : (.methodLink R_Cur 3 objectInit : Cond) ∈ AW := List.mem_append_left _ (List.mem_of_getElem? (i := 78) rfl)
theorem m_79 : (.classLink R_Cur 9 R_Fie : Cond) ∈ AW := List.mem_append_left _ (List.mem_of_getElem? (i := 79) rfl)
theorem m_80 : (.instantiable R_Fie 8 : Cond) ∈ AW := List.mem_append_left _ (List.mem_of_getElem? (i := 80) rfl)
theorem m_81 : (.initialized R_Fie : Cond) ∈ AW := List.mem_append_left _ (List.mem_of_getElem? (i := 81) rfl)
theorem m_82 : (.code y_Fie_init prog_4_method_1_code 1 (none) : Cond) ∈ AW := List.mem_append_left _ (List.mem_of_getElem? (i := 82) rfl)
theorem m_83 : (.methodLink R_Cur 11 y_Fie_init : Cond) ∈ AW := List.mem_append_left _ (List.mem_of_getElem? (i := 83) rfl)
theorem m_84 : (.instanceMethod y_Fie_init : Cond) ∈ AW := List.mem_append_left _ (List.mem_of_getElem? (i := 84) rfl)
theorem m_85 : (.fieldLink R_Cur 12 "ThresholdBench$Curve" "field" "LThresholdBench$Field;" : Cond) ∈ AW := List.mem_append_left _ (List.mem_of_getElem? (i := 85) rfl)
theorem m_86 : (.fieldLink R_Cur 18 "ThresholdBench$Curve" "a" "[J" : Cond) ∈ AW := List.mem_append_left _ (List.mem_of_getElem? (i := 86) rfl)
theorem m_87 : (.fieldLink R_Cur 22 "ThresholdBench$Curve" "b" "[J" : Cond) ∈ AW := List.mem_append_left _ (List.mem_of_getElem? (i := 87) rfl)
theorem m_88 : (.fieldLink R_Cur 25 "ThresholdBench$Curve" "c" "[J" : Cond) ∈ AW := List.mem_append_left _ (List.mem_of_getElem? (i := 88) rfl)
theorem m_89 : (.fieldLink R_Cur 28 "ThresholdBench$Curve" "d" "[J" : Cond) ∈ AW := List.mem_append_left _ (List.mem_of_getElem? (i := 89) rfl)
theorem m_90 : (.fieldLink R_Cur 31 "ThresholdBench$Curve" "e" "[J" : Cond) ∈ AW := List.mem_append_left _ (List.mem_of_getElem? (i := 90) rfl)
theorem m_91 : (.fieldLink R_Cur 34 "ThresholdBench$Curve" "words" "[I" : Cond) ∈ AW := List.mem_append_left _ (List.mem_of_getElem? (i := 91) rfl)
theorem m_92 : (.classLink R_Cur 38 R_Poi : Cond) ∈ AW := List.mem_append_left _ (List.mem_of_getElem? (i := 92) rfl)
theorem m_93 : (.methodLink R_Cur 40 y_Poi_init : Cond) ∈ AW := List.mem_append_left _ (List.mem_of_getElem? (i := 93) rfl)
theorem m_94 : (.fieldLink R_Cur 41 "ThresholdBench$Curve" "tooth" "LThresholdBench$Point;" : Cond) ∈ AW := List.mem_append_left _ (List.mem_of_getElem? (i := 94) rfl)
theorem m_95 : (.classLink R_Cur 45 R_Ter : Cond) ∈ AW := List.mem_append_left _ (List.mem_of_getElem? (i := 95) rfl)
theorem m_96 : (.fieldLink R_Cur 47 "ThresholdBench$Curve" "terms" "[LThresholdBench$Term;" : Cond) ∈ AW := List.mem_append_left _ (List.mem_of_getElem? (i := 96) rfl)
theorem m_97 : (.instantiable R_Ter 2 : Cond) ∈ AW := List.mem_append_left _ (List.mem_of_getElem? (i := 97) rfl)
theorem m_98 : (.initialized R_Ter : Cond) ∈ AW := List.mem_append_left _ (List.mem_of_getElem? (i := 98) rfl)
theorem m_99 : (.code y_Ter_init prog_11_method_1_code 1 (none) : Cond) ∈ AW := List.mem_append_left _ (List.mem_of_getElem? (i := 99) rfl)
theorem m_100 : (.methodLink R_Cur 51 y_Ter_init : Cond) ∈ AW := List.mem_append_left _ (List.mem_of_getElem? (i := 100) rfl)
theorem m_101 : (.instanceMethod y_Ter_init : Cond) ∈ AW := List.mem_append_left _ (List.mem_of_getElem? (i := 101) rfl)
theorem m_102 : (.methodLink R_TB 3 objectInit : Cond) ∈ AW := List.mem_append_left _ (List.mem_of_getElem? (i := 102) rfl)
theorem m_103 : (.classLink R_TB 9 R_Row : Cond) ∈ AW := List.mem_append_left _ (List.mem_of_getElem? (i := 103) rfl)
theorem m_104 : (.methodLink R_TB 11 y_Row_init : Cond) ∈ AW := List.mem_append_left _ (List.mem_of_getElem? (i := 104) rfl)
theorem m_105 : (.fieldLink R_TB 14 "ThresholdBench" "tape" "LThresholdBench$Row;" : Cond) ∈ AW := List.mem_append_left _ (List.mem_of_getElem? (i := 105) rfl)
theorem m_106 : (.fieldLink R_TB 18 "ThresholdBench" "taken" "LThresholdBench$Row;" : Cond) ∈ AW := List.mem_append_left _ (List.mem_of_getElem? (i := 106) rfl)
theorem m_107 : (.fieldLink R_TB 21 "ThresholdBench" "text" "LThresholdBench$Row;" : Cond) ∈ AW := List.mem_append_left _ (List.mem_of_getElem? (i := 107) rfl)
theorem m_108 : (.fieldLink R_TB 24 "ThresholdBench" "shown" "LThresholdBench$Row;" : Cond) ∈ AW := List.mem_append_left _ (List.mem_of_getElem? (i := 108) rfl)
theorem m_109 : (.classLink R_TB 27 R_Par : Cond) ∈ AW := List.mem_append_left _ (List.mem_of_getElem? (i := 109) rfl)
theorem m_110 : (.fieldLink R_TB 29 "ThresholdBench" "participants" "[LThresholdBench$Participant;" : Cond) ∈ AW := List.mem_append_left _ (List.mem_of_getElem? (i := 110) rfl)
theorem m_111 : (.classLink R_TB 33 R_Poi : Cond) ∈ AW := List.mem_append_left _ (List.mem_of_getElem? (i := 111) rfl)
theorem m_112 : (.fieldLink R_TB 35 "ThresholdBench" "coefficientPoints" "[LThresholdBench$Point;" : Cond) ∈ AW := List.mem_append_left _ (List.mem_of_getElem? (i := 112) rfl)
theorem m_113 : (.classLink R_TB 39 R_Sig : Cond) ∈ AW := List.mem_append_left _ (List.mem_of_getElem? (i := 113) rfl)
theorem m_114 : (.instantiable R_Sig 7 : Cond) ∈ AW := List.mem_append_left _ (List.mem_of_getElem? (i := 114) rfl)
theorem m_115 : (.initialized R_Sig : Cond) ∈ AW := List.mem_append_left _ (List.mem_of_getElem? (i := 115) rfl)
theorem m_116 : (.code y_Sig_init prog_10_method_1_code 1 (none) : Cond) ∈ AW := List.mem_append_left _ (List.mem_of_getElem? (i := 116) rfl)
theorem m_117 : (.methodLink R_TB 41 y_Sig_init : Cond) ∈ AW := List.mem_append_left _ (List.mem_of_getElem? (i := 117) rfl)
theorem m_118 : (.instanceMethod y_Sig_init : Cond) ∈ AW := List.mem_append_left _ (List.mem_of_getElem? (i := 118) rfl)
theorem m_119 : (.fieldLink R_TB 42 "ThresholdBench" "signing" "LThresholdBench$Signing;" : Cond) ∈ AW := List.mem_append_left _ (List.mem_of_getElem? (i := 119) rfl)
theorem m_120 : (.fieldLink R_TB 46 "ThresholdBench" "spare" "LThresholdBench$Signing;" : Cond) ∈ AW := List.mem_append_left _ (List.mem_of_getElem? (i := 120) rfl)
theorem m_121 : (.classLink R_TB 49 R_Sca : Cond) ∈ AW := List.mem_append_left _ (List.mem_of_getElem? (i := 121) rfl)
theorem m_122 : (.instantiable R_Sca 2 : Cond) ∈ AW := List.mem_append_left _ (List.mem_of_getElem? (i := 122) rfl)
theorem m_123 : (.initialized R_Sca : Cond) ∈ AW := List.mem_append_left _ (List.mem_of_getElem? (i := 123) rfl)
theorem m_124 : (.code y_Sca_init prog_8_method_1_code 1 (none) : Cond) ∈ AW := List.mem_append_left _ (List.mem_of_getElem? (i := 124) rfl)
theorem m_125 : (.methodLink R_TB 51 y_Sca_init : Cond) ∈ AW := List.mem_append_left _ (List.mem_of_getElem? (i := 125) rfl)
theorem m_126 : (.instanceMethod y_Sca_init : Cond) ∈ AW := List.mem_append_left _ (List.mem_of_getElem? (i := 126) rfl)
theorem m_127 : (.fieldLink R_TB 52 "ThresholdBench" "scalars" "LThresholdBench$Scalars;" : Cond) ∈ AW := List.mem_append_left _ (List.mem_of_getElem? (i := 127) rfl)
theorem m_128 : (.classLink R_TB 56 R_Cur : Cond) ∈ AW := List.mem_append_left _ (List.mem_of_getElem? (i := 128) rfl)
theorem m_129 : (.instantiable R_Cur 10 : Cond) ∈ AW := List.mem_append_left _ (List.mem_of_getElem? (i := 129) rfl)
theorem m_130 : (.initialized R_Cur : Cond) ∈ AW := List.mem_append_left _ (List.mem_of_getElem? (i := 130) rfl)
theorem m_131 : (.code y_Cur_init prog_2_method_1_code 2 (none) : Cond) ∈ AW := List.mem_append_left _ (List.mem_of_getElem? (i := 131) rfl)
theorem m_132 : (.methodLink R_TB 58 y_Cur_init : Cond) ∈ AW := List.mem_append_left _ (List.mem_of_getElem? (i := 132) rfl)
theorem m_133 : (.instanceMethod y_Cur_init : Cond) ∈ AW := List.mem_append_left _ (List.mem_of_getElem? (i := 133) rfl)
theorem m_134 : (.fieldLink R_TB 59 "ThresholdBench" "curve" "LThresholdBench$Curve;" : Cond) ∈ AW := List.mem_append_left _ (List.mem_of_getElem? (i := 134) rfl)
theorem m_135 : (.classLink R_TB 63 R_Dig : Cond) ∈ AW := List.mem_append_left _ (List.mem_of_getElem? (i := 135) rfl)
theorem m_136 : (.instantiable R_Dig 5 : Cond) ∈ AW := List.mem_append_left _ (List.mem_of_getElem? (i := 136) rfl)
theorem m_137 : (.initialized R_Dig : Cond) ∈ AW := List.mem_append_left _ (List.mem_of_getElem? (i := 137) rfl)
theorem m_138 : (.code y_Dig_init prog_3_method_1_code 1 (none) : Cond) ∈ AW := List.mem_append_left _ (List.mem_of_getElem? (i := 138) rfl)
theorem m_139 : (.methodLink R_TB 65 y_Dig_init : Cond) ∈ AW := List.mem_append_left _ (List.mem_of_getElem? (i := 139) rfl)
theorem m_140 : (.instanceMethod y_Dig_init : Cond) ∈ AW := List.mem_append_left _ (List.mem_of_getElem? (i := 140) rfl)
theorem m_141 : (.fieldLink R_TB 66 "ThresholdBench" "digests" "LThresholdBench$Digests;" : Cond) ∈ AW := List.mem_append_left _ (List.mem_of_getElem? (i := 141) rfl)
theorem m_142 : (.classLink R_TB 70 "[[I" : Cond) ∈ AW := List.mem_append_left _ (List.mem_of_getElem? (i := 142) rfl)
theorem m_143 : (.fieldLink R_TB 72 "ThresholdBench" "drawn" "[[I" : Cond) ∈ AW := List.mem_append_left _ (List.mem_of_getElem? (i := 143) rfl)
theorem m_144 : (.fieldLink R_TB 75 "ThresholdBench" "first" "[I" : Cond) ∈ AW := List.mem_append_left _ (List.mem_of_getElem? (i := 144) rfl)
theorem m_145 : (.fieldLink R_TB 79 "ThresholdBench" "second" "[I" : Cond) ∈ AW := List.mem_append_left _ (List.mem_of_getElem? (i := 145) rfl)
theorem m_146 : (.methodLink R_TB 82 y_Poi_init : Cond) ∈ AW := List.mem_append_left _ (List.mem_of_getElem? (i := 146) rfl)
theorem m_147 : (.fieldLink R_TB 83 "ThresholdBench" "left" "LThresholdBench$Point;" : Cond) ∈ AW := List.mem_append_left _ (List.mem_of_getElem? (i := 147) rfl)
theorem m_148 : (.fieldLink R_TB 87 "ThresholdBench" "otherSide" "LThresholdBench$Point;" : Cond) ∈ AW := List.mem_append_left _ (List.mem_of_getElem? (i := 148) rfl)
theorem m_149 : (.instantiable R_Par 7 : Cond) ∈ AW := List.mem_append_left _ (List.mem_of_getElem? (i := 149) rfl)
theorem m_150 : (.initialized R_Par : Cond) ∈ AW := List.mem_append_left _ (List.mem_of_getElem? (i := 150) rfl)
theorem m_151 : (.code y_Par_init prog_5_method_1_code 1 (none) : Cond) ∈ AW := List.mem_append_left _ (List.mem_of_getElem? (i := 151) rfl)
theorem m_152 : (.methodLink R_TB 90 y_Par_init : Cond) ∈ AW := List.mem_append_left _ (List.mem_of_getElem? (i := 152) rfl)
theorem m_153 : (.instanceMethod y_Par_init : Cond) ∈ AW := List.mem_append_left _ (List.mem_of_getElem? (i := 153) rfl)
theorem m_154 : (.code y_Row_put prog_7_method_3_code 2 (none) : Cond) ∈ AW := List.mem_append_left _ (List.mem_of_getElem? (i := 154) rfl)
theorem m_155 : (.methodLink R_TB 301 y_Row_put : Cond) ∈ AW := List.mem_append_left _ (List.mem_of_getElem? (i := 155) rfl)
theorem m_156 : (.instanceMethod y_Row_put : Cond) ∈ AW := List.mem_append_left _ (List.mem_of_getElem? (i := 156) rfl)
theorem m_157 : (.selects R_Row y_Row_put y_Row_put : Cond) ∈ AW := List.mem_append_left _ (List.mem_of_getElem? (i := 157) rfl)
theorem m_158 : (.fieldLink R_TB 91 "ThresholdBench$Row" "length" "I" : Cond) ∈ AW := List.mem_append_left _ (List.mem_of_getElem? (i := 158) rfl)
theorem m_159 : (.code y_TB_feedWord prog_1_method_16_code 4 (none) : Cond) ∈ AW := List.mem_append_left _ (List.mem_of_getElem? (i := 159) rfl)
theorem m_160 : (.methodLink R_TB 95 y_TB_feedWord : Cond) ∈ AW := List.mem_append_left _ (List.mem_of_getElem? (i := 160) rfl)
theorem m_161 : (.instanceMethod y_TB_feedWord : Cond) ∈ AW := List.mem_append_left _ (List.mem_of_getElem? (i := 161) rfl)
theorem m_162 : (.selects R_TB y_TB_feedWord y_TB_feedWord : Cond) ∈ AW := List.mem_append_left _ (List.mem_of_getElem? (i := 162) rfl)
theorem m_163 : (.initialized R_TB : Cond) ∈ AW := List.mem_append_left _ (List.mem_of_getElem? (i := 163) rfl)
theorem m_164 : (.code y_Row_clear prog_7_method_2_code 1 (none) : Cond) ∈ AW := List.mem_append_left _ (List.mem_of_getElem? (i := 164) rfl)
theorem m_165 : (.methodLink R_TB 105 y_Row_clear : Cond) ∈ AW := List.mem_append_left _ (List.mem_of_getElem? (i := 165) rfl)
theorem m_166 : (.instanceMethod y_Row_clear : Cond) ∈ AW := List.mem_append_left _ (List.mem_of_getElem? (i := 166) rfl)
theorem m_167 : (.selects R_Row y_Row_clear y_Row_clear : Cond) ∈ AW := List.mem_append_left _ (List.mem_of_getElem? (i := 167) rfl)
theorem m_168 : (.fieldLink R_TB 225 "ThresholdBench$Signing" "set" "I" : Cond) ∈ AW := List.mem_append_left _ (List.mem_of_getElem? (i := 168) rfl)
theorem m_169 : (.fieldLink R_TB 228 "ThresholdBench$Signing" "given" "I" : Cond) ∈ AW := List.mem_append_left _ (List.mem_of_getElem? (i := 169) rfl)
theorem m_170 : (.code y_TB_takeTape prog_1_method_17_code 2 (none) : Cond) ∈ AW := List.mem_append_left _ (List.mem_of_getElem? (i := 170) rfl)
theorem m_171 : (.methodLink R_TB 102 y_TB_takeTape : Cond) ∈ AW := List.mem_append_left _ (List.mem_of_getElem? (i := 171) rfl)
theorem m_172 : (.instanceMethod y_TB_takeTape : Cond) ∈ AW := List.mem_append_left _ (List.mem_of_getElem? (i := 172) rfl)
theorem m_173 : (.selects R_TB y_TB_takeTape y_TB_takeTape : Cond) ∈ AW := List.mem_append_left _ (List.mem_of_getElem? (i := 173) rfl)
theorem m_174 : (.code y_Row_putRow prog_7_method_4_code 2 (none) : Cond) ∈ AW := List.mem_append_left _ (List.mem_of_getElem? (i := 174) rfl)
theorem m_175 : (.methodLink R_TB 108 y_Row_putRow : Cond) ∈ AW := List.mem_append_left _ (List.mem_of_getElem? (i := 175) rfl)
theorem m_176 : (.instanceMethod y_Row_putRow : Cond) ∈ AW := List.mem_append_left _ (List.mem_of_getElem? (i := 176) rfl)
theorem m_177 : (.selects R_Row y_Row_putRow y_Row_putRow : Cond) ∈ AW := List.mem_append_left _ (List.mem_of_getElem? (i := 177) rfl)
theorem m_178 : (.code y_TB_endSet prog_1_method_18_code 1 (none) : Cond) ∈ AW := List.mem_append_left _ (List.mem_of_getElem? (i := 178) rfl)
theorem m_179 : (.methodLink R_TB 112 y_TB_endSet : Cond) ∈ AW := List.mem_append_left _ (List.mem_of_getElem? (i := 179) rfl)
theorem m_180 : (.instanceMethod y_TB_endSet : Cond) ∈ AW := List.mem_append_left _ (List.mem_of_getElem? (i := 180) rfl)
theorem m_181 : (.selects R_TB y_TB_endSet y_TB_endSet : Cond) ∈ AW := List.mem_append_left _ (List.mem_of_getElem? (i := 181) rfl)
theorem m_182 : (.fieldLink R_TB 126 "ThresholdBench" "size" "I" : Cond) ∈ AW := List.mem_append_left _ (List.mem_of_getElem? (i := 182) rfl)
theorem m_183 : (.classLink R_TB 304 "java/lang/IllegalStateException" : Cond) ∈ AW := List.mem_append_left _ (List.mem_of_getElem? (i := 183) rfl)
theorem m_184 : (.initialized "java/lang/IllegalStateException" : Cond) ∈ AW := List.mem_append_left _ (List.mem_of_getElem? (i := 184) rfl)
theorem m_185 : (.classLink R_TB 99 "java/lang/IllegalArgumentException" : Cond) ∈ AW := List.mem_append_left _ (List.mem_of_getElem? (i := 185) rfl)
theorem m_186 : (.initialized "java/lang/IllegalArgumentException" : Cond) ∈ AW := List.mem_append_left _ (List.mem_of_getElem? (i := 186) rfl)
theorem m_187 : (.code y_TB_drawCoefficients prog_1_method_27_code 3 (some .boolean) : Cond) ∈ AW := List.mem_append_left _ (List.mem_of_getElem? (i := 187) rfl)
theorem m_188 : (.methodLink R_TB 115 y_TB_drawCoefficients : Cond) ∈ AW := List.mem_append_left _ (List.mem_of_getElem? (i := 188) rfl)
theorem m_189 : (.instanceMethod y_TB_drawCoefficients : Cond) ∈ AW := List.mem_append_left _ (List.mem_of_getElem? (i := 189) rfl)
theorem m_190 : (.selects R_TB y_TB_drawCoefficients y_TB_drawCoefficients : Cond) ∈ AW := List.mem_append_left _ (List.mem_of_getElem? (i := 190) rfl)
theorem m_191 : (.code y_TB_requireDealt prog_1_method_19_code 1 (none) : Cond) ∈ AW := List.mem_append_left _ (List.mem_of_getElem? (i := 191) rfl)
theorem m_192 : (.methodLink R_TB 159 y_TB_requireDealt : Cond) ∈ AW := List.mem_append_left _ (List.mem_of_getElem? (i := 192) rfl)
theorem m_193 : (.instanceMethod y_TB_requireDealt : Cond) ∈ AW := List.mem_append_left _ (List.mem_of_getElem? (i := 193) rfl)
theorem m_194 : (.selects R_TB y_TB_requireDealt y_TB_requireDealt : Cond) ∈ AW := List.mem_append_left _ (List.mem_of_getElem? (i := 194) rfl)
theorem m_195 : (.code y_TB_requireSet prog_1_method_20_code 1 (none) : Cond) ∈ AW := List.mem_append_left _ (List.mem_of_getElem? (i := 195) rfl)
theorem m_196 : (.methodLink R_TB 235 y_TB_requireSet : Cond) ∈ AW := List.mem_append_left _ (List.mem_of_getElem? (i := 196) rfl)
theorem m_197 : (.instanceMethod y_TB_requireSet : Cond) ∈ AW := List.mem_append_left _ (List.mem_of_getElem? (i := 197) rfl)
theorem m_198 : (.selects R_TB y_TB_requireSet y_TB_requireSet : Cond) ∈ AW := List.mem_append_left _ (List.mem_of_getElem? (i := 198) rfl)
theorem m_199 : (.code y_Sha_addToState prog_9_method_9_code 6 (none) : Cond) ∈ AW := List.mem_append_left _ (List.mem_of_getElem? (i := 199) rfl)
theorem m_200 : (.methodLink R_Sha 66 y_Sha_addToState : Cond) ∈ AW := List.mem_append_left _ (List.mem_of_getElem? (i := 200) rfl)
theorem m_201 : (.instanceMethod y_Sha_addToState : Cond) ∈ AW := List.mem_append_left _ (List.mem_of_getElem? (i := 201) rfl)
theorem m_202 : (.selects R_Sha y_Sha_addToState y_Sha_addToState : Cond) ∈ AW := List.mem_append_left _ (List.mem_of_getElem? (i := 202) rfl)
theorem m_203 : (.code y_Arr_fill prog_26_method_103_code 4 (none) : Cond) ∈ AW := List.mem_append_left _ (List.mem_of_getElem? (i := 203) rfl)
theorem m_204 : (.methodLink R_Sha 25 y_Arr_fill : Cond) ∈ AW := List.mem_append_left _ (List.mem_of_getElem? (i := 204) rfl)
theorem m_205 : (.static y_Arr_fill : Cond) ∈ AW := List.mem_append_left _ (List.mem_of_getElem? (i := 205) rfl)
theorem m_206 : (.initialized R_Arr : Cond) ∈ AW := List.mem_append_left _ (List.mem_of_getElem? (i := 206) rfl)
theorem m_207 : (.fieldLink R_Sha 63 "ThresholdBench$Sha" "ROUND" "[I" : Cond) ∈ AW := List.mem_append_left _ (List.mem_of_getElem? (i := 207) rfl)
theorem m_208 : (.fieldLink R_Sha 31 "ThresholdBench$Sha" "taken" "I" : Cond) ∈ AW := List.mem_append_left _ (List.mem_of_getElem? (i := 208) rfl)
theorem m_209 : (.code y_Sha_compress prog_9_method_8_code 13 (none) : Cond) ∈ AW := List.mem_append_left _ (List.mem_of_getElem? (i := 209) rfl)
theorem m_210 : (.methodLink R_Sha 35 y_Sha_compress : Cond) ∈ AW := List.mem_append_left _ (List.mem_of_getElem? (i := 210) rfl)
theorem m_211 : (.instanceMethod y_Sha_compress : Cond) ∈ AW := List.mem_append_left _ (List.mem_of_getElem? (i := 211) rfl)
theorem m_212 : (.selects R_Sha y_Sha_compress y_Sha_compress : Cond) ∈ AW := List.mem_append_left _ (List.mem_of_getElem? (i := 212) rfl)
theorem m_213 : (.fieldLink R_Sha 16 "ThresholdBench$Sha" "START" "[I" : Cond) ∈ AW := List.mem_append_left _ (List.mem_of_getElem? (i := 213) rfl)
theorem m_214 : (.methodLink R_Sha 19 arraycopyName : Cond) ∈ AW := List.mem_append_left _ (List.mem_of_getElem? (i := 214) rfl)
theorem m_215 : (.native arraycopyName : Cond) ∈ AW := List.mem_append_left _ (List.mem_of_getElem? (i := 215) rfl)
theorem m_216 : (.static arraycopyName : Cond) ∈ AW := List.mem_append_left _ (List.mem_of_getElem? (i := 216) rfl)
theorem m_217 : (.initialized "java/lang/System" : Cond) ∈ AW := List.mem_append_left _ (List.mem_of_getElem? (i := 217) rfl)
theorem m_218 : (.fieldLink R_Sha 38 "ThresholdBench$Row" "length" "I" : Cond) ∈ AW := List.mem_append_left _ (List.mem_of_getElem? (i := 218) rfl)
theorem m_219 : (.code y_Sha_takeByte prog_9_method_3_code 3 (none) : Cond) ∈ AW := List.mem_append_left _ (List.mem_of_getElem? (i := 219) rfl)
theorem m_220 : (.methodLink R_Sha 47 y_Sha_takeByte : Cond) ∈ AW := List.mem_append_left _ (List.mem_of_getElem? (i := 220) rfl)
theorem m_221 : (.instanceMethod y_Sha_takeByte : Cond) ∈ AW := List.mem_append_left _ (List.mem_of_getElem? (i := 221) rfl)
theorem m_222 : (.selects R_Sha y_Sha_takeByte y_Sha_takeByte : Cond) ∈ AW := List.mem_append_left _ (List.mem_of_getElem? (i := 222) rfl)
theorem m_223 : (.methodLink R_Sha 60 y_Row_put : Cond) ∈ AW := List.mem_append_left _ (List.mem_of_getElem? (i := 223) rfl)
theorem m_224 : (.code y_Sha_begin prog_9_method_2_code 1 (none) : Cond) ∈ AW := List.mem_append_left _ (List.mem_of_getElem? (i := 224) rfl)
theorem m_225 : (.methodLink R_Dig 36 y_Sha_begin : Cond) ∈ AW := List.mem_append_left _ (List.mem_of_getElem? (i := 225) rfl)
theorem m_226 : (.instanceMethod y_Sha_begin : Cond) ∈ AW := List.mem_append_left _ (List.mem_of_getElem? (i := 226) rfl)
theorem m_227 : (.selects R_Sha y_Sha_begin y_Sha_begin : Cond) ∈ AW := List.mem_append_left _ (List.mem_of_getElem? (i := 227) rfl)
theorem m_228 : (.code y_Sha_takeRow prog_9_method_4_code 3 (none) : Cond) ∈ AW := List.mem_append_left _ (List.mem_of_getElem? (i := 228) rfl)
theorem m_229 : (.methodLink R_Dig 39 y_Sha_takeRow : Cond) ∈ AW := List.mem_append_left _ (List.mem_of_getElem? (i := 229) rfl)
theorem m_230 : (.instanceMethod y_Sha_takeRow : Cond) ∈ AW := List.mem_append_left _ (List.mem_of_getElem? (i := 230) rfl)
theorem m_231 : (.selects R_Sha y_Sha_takeRow y_Sha_takeRow : Cond) ∈ AW := List.mem_append_left _ (List.mem_of_getElem? (i := 231) rfl)
theorem m_232 : (.code y_Sha_end prog_9_method_7_code 6 (none) : Cond) ∈ AW := List.mem_append_left _ (List.mem_of_getElem? (i := 232) rfl)
theorem m_233 : (.methodLink R_Dig 43 y_Sha_end : Cond) ∈ AW := List.mem_append_left _ (List.mem_of_getElem? (i := 233) rfl)
theorem m_234 : (.instanceMethod y_Sha_end : Cond) ∈ AW := List.mem_append_left _ (List.mem_of_getElem? (i := 234) rfl)
theorem m_235 : (.selects R_Sha y_Sha_end y_Sha_end : Cond) ∈ AW := List.mem_append_left _ (List.mem_of_getElem? (i := 235) rfl)
theorem m_236 : (.code y_TB_isParticipant prog_1_method_23_code 2 (some .boolean) : Cond) ∈ AW := List.mem_append_left _ (List.mem_of_getElem? (i := 236) rfl)
theorem m_237 : (.methodLink R_TB 307 y_TB_isParticipant : Cond) ∈ AW := List.mem_append_left _ (List.mem_of_getElem? (i := 237) rfl)
theorem m_238 : (.instanceMethod y_TB_isParticipant : Cond) ∈ AW := List.mem_append_left _ (List.mem_of_getElem? (i := 238) rfl)
theorem m_239 : (.selects R_TB y_TB_isParticipant y_TB_isParticipant : Cond) ∈ AW := List.mem_append_left _ (List.mem_of_getElem? (i := 239) rfl)
theorem m_240 : (.fieldLink R_TB 123 "ThresholdBench" "threshold" "I" : Cond) ∈ AW := List.mem_append_left _ (List.mem_of_getElem? (i := 240) rfl)
theorem m_241 : (.fieldLink R_TB 129 "ThresholdBench" "committed" "I" : Cond) ∈ AW := List.mem_append_left _ (List.mem_of_getElem? (i := 241) rfl)
theorem m_242 : (.code y_TB_isIn prog_1_method_24_code 3 (some .boolean) : Cond) ∈ AW := List.mem_append_left _ (List.mem_of_getElem? (i := 242) rfl)
theorem m_243 : (.methodLink R_TB 270 y_TB_isIn : Cond) ∈ AW := List.mem_append_left _ (List.mem_of_getElem? (i := 243) rfl)
theorem m_244 : (.instanceMethod y_TB_isIn : Cond) ∈ AW := List.mem_append_left _ (List.mem_of_getElem? (i := 244) rfl)
theorem m_245 : (.selects R_TB y_TB_isIn y_TB_isIn : Cond) ∈ AW := List.mem_append_left _ (List.mem_of_getElem? (i := 245) rfl)
theorem m_246 : (.code y_TB_isThere prog_1_method_26_code 3 (some .boolean) : Cond) ∈ AW := List.mem_append_left _ (List.mem_of_getElem? (i := 246) rfl)
theorem m_247 : (.methodLink R_TB 286 y_TB_isThere : Cond) ∈ AW := List.mem_append_left _ (List.mem_of_getElem? (i := 247) rfl)
theorem m_248 : (.instanceMethod y_TB_isThere : Cond) ∈ AW := List.mem_append_left _ (List.mem_of_getElem? (i := 248) rfl)
theorem m_249 : (.selects R_TB y_TB_isThere y_TB_isThere : Cond) ∈ AW := List.mem_append_left _ (List.mem_of_getElem? (i := 249) rfl)
theorem m_250 : (.code y_Dig_plain prog_3_method_2_code 3 (none) : Cond) ∈ AW := List.mem_append_left _ (List.mem_of_getElem? (i := 250) rfl)
theorem m_251 : (.methodLink R_TB 293 y_Dig_plain : Cond) ∈ AW := List.mem_append_left _ (List.mem_of_getElem? (i := 251) rfl)
theorem m_252 : (.instanceMethod y_Dig_plain : Cond) ∈ AW := List.mem_append_left _ (List.mem_of_getElem? (i := 252) rfl)
theorem m_253 : (.selects R_Dig y_Dig_plain y_Dig_plain : Cond) ∈ AW := List.mem_append_left _ (List.mem_of_getElem? (i := 253) rfl)
theorem m_254 : (.fieldLink R_Mo 176 "ThresholdBenchModel" "thrown" "I" : Cond) ∈ AW := List.mem_append_left _ (List.mem_of_getElem? (i := 254) rfl)
theorem m_255 : (.fieldLink R_Mo 274 "ThresholdBenchModel" "taped" "I" : Cond) ∈ AW := List.mem_append_left _ (List.mem_of_getElem? (i := 255) rfl)
theorem m_256 : (.fieldLink R_Mo 277 "ThresholdBenchModel" "set" "I" : Cond) ∈ AW := List.mem_append_left _ (List.mem_of_getElem? (i := 256) rfl)
theorem m_257 : (.fieldLink R_Mo 280 "ThresholdBenchModel" "given" "I" : Cond) ∈ AW := List.mem_append_left _ (List.mem_of_getElem? (i := 257) rfl)
theorem m_258 : (.fieldLink R_Mo 307 "ThresholdBenchModel" "many" "I" : Cond) ∈ AW := List.mem_append_left _ (List.mem_of_getElem? (i := 258) rfl)
theorem m_259 : (.code y_Mo_fails prog_14_method_3_code 3 (some .boolean) : Cond) ∈ AW := List.mem_append_left _ (List.mem_of_getElem? (i := 259) rfl)
theorem m_260 : (.methodLink R_Mo 287 y_Mo_fails : Cond) ∈ AW := List.mem_append_left _ (List.mem_of_getElem? (i := 260) rfl)
theorem m_261 : (.instanceMethod y_Mo_fails : Cond) ∈ AW := List.mem_append_left _ (List.mem_of_getElem? (i := 261) rfl)
theorem m_262 : (.selects R_Mo y_Mo_fails y_Mo_fails : Cond) ∈ AW := List.mem_append_left _ (List.mem_of_getElem? (i := 262) rfl)
theorem m_263 : (.initialized R_Mo : Cond) ∈ AW := List.mem_append_left _ (List.mem_of_getElem? (i := 263) rfl)
theorem m_264 : (.code y_Mo_used prog_14_method_37_code 2 (some .int) : Cond) ∈ AW := List.mem_append_left _ (List.mem_of_getElem? (i := 264) rfl)
theorem m_265 : (.methodLink R_Mo 283 y_Mo_used : Cond) ∈ AW := List.mem_append_left _ (List.mem_of_getElem? (i := 265) rfl)
theorem m_266 : (.instanceMethod y_Mo_used : Cond) ∈ AW := List.mem_append_left _ (List.mem_of_getElem? (i := 266) rfl)
theorem m_267 : (.selects R_Mo y_Mo_used y_Mo_used : Cond) ∈ AW := List.mem_append_left _ (List.mem_of_getElem? (i := 267) rfl)
theorem m_268 : (.code y_Mo_none prog_14_method_42_code 2 (some .boolean) : Cond) ∈ AW := List.mem_append_left _ (List.mem_of_getElem? (i := 268) rfl)
theorem m_269 : (.methodLink R_Mo 322 y_Mo_none : Cond) ∈ AW := List.mem_append_left _ (List.mem_of_getElem? (i := 269) rfl)
theorem m_270 : (.instanceMethod y_Mo_none : Cond) ∈ AW := List.mem_append_left _ (List.mem_of_getElem? (i := 270) rfl)
theorem m_271 : (.selects R_Mo y_Mo_none y_Mo_none : Cond) ∈ AW := List.mem_append_left _ (List.mem_of_getElem? (i := 271) rfl)
theorem m_272 : (.code y_Mo_noGiver prog_14_method_55_code 2 (some .boolean) : Cond) ∈ AW := List.mem_append_left _ (List.mem_of_getElem? (i := 272) rfl)
theorem m_273 : (.methodLink R_Mo 362 y_Mo_noGiver : Cond) ∈ AW := List.mem_append_left _ (List.mem_of_getElem? (i := 273) rfl)
theorem m_274 : (.instanceMethod y_Mo_noGiver : Cond) ∈ AW := List.mem_append_left _ (List.mem_of_getElem? (i := 274) rfl)
theorem m_275 : (.selects R_Mo y_Mo_noGiver y_Mo_noGiver : Cond) ∈ AW := List.mem_append_left _ (List.mem_of_getElem? (i := 275) rfl)
theorem m_276 : (.fieldLink R_Mo 262 "ThresholdBenchModel" "messageSize" "I" : Cond) ∈ AW := List.mem_append_left _ (List.mem_of_getElem? (i := 276) rfl)
theorem m_277 : (.code y_Mo_noSet prog_14_method_38_code 1 (none) : Cond) ∈ AW := List.mem_append_left _ (List.mem_of_getElem? (i := 277) rfl)
theorem m_278 : (.methodLink R_Mo 291 y_Mo_noSet : Cond) ∈ AW := List.mem_append_left _ (List.mem_of_getElem? (i := 278) rfl)
theorem m_279 : (.instanceMethod y_Mo_noSet : Cond) ∈ AW := List.mem_append_left _ (List.mem_of_getElem? (i := 279) rfl)
theorem m_280 : (.selects R_Mo y_Mo_noSet y_Mo_noSet : Cond) ∈ AW := List.mem_append_left _ (List.mem_of_getElem? (i := 280) rfl)
theorem m_281 : (.fieldLink R_Mo 139 "ThresholdBenchModel" "tape" "[B" : Cond) ∈ AW := List.mem_append_left _ (List.mem_of_getElem? (i := 281) rfl)
theorem m_282 : (.fieldLink R_Mo 164 "ThresholdBenchModel" "state" "[I" : Cond) ∈ AW := List.mem_append_left _ (List.mem_of_getElem? (i := 282) rfl)
theorem m_283 : (.code y_Mo_turned prog_14_method_26_code 2 (some .int) : Cond) ∈ AW := List.mem_append_left _ (List.mem_of_getElem? (i := 283) rfl)
theorem m_284 : (.methodLink R_Mo 250 y_Mo_turned : Cond) ∈ AW := List.mem_append_left _ (List.mem_of_getElem? (i := 284) rfl)
theorem m_285 : (.static y_Mo_turned : Cond) ∈ AW := List.mem_append_left _ (List.mem_of_getElem? (i := 285) rfl)
theorem m_286 : (.fieldLink R_Mo 71 "ThresholdBenchModel" "roundNumbers" "[I" : Cond) ∈ AW := List.mem_append_left _ (List.mem_of_getElem? (i := 286) rfl)
theorem m_287 : (.fieldLink R_Mo 167 "ThresholdBenchModel" "rows" "[I" : Cond) ∈ AW := List.mem_append_left _ (List.mem_of_getElem? (i := 287) rfl)
theorem m_288 : (.fieldLink R_Mo 152 "ThresholdBenchModel" "block" "[B" : Cond) ∈ AW := List.mem_append_left _ (List.mem_of_getElem? (i := 288) rfl)
theorem m_289 : (.constant R_Mo 239 (1779033703) : Cond) ∈ AW := List.mem_append_left _ (List.mem_of_getElem? (i := 289) rfl)
theorem m_290 : (.constant R_Mo 240 (-1150833019) : Cond) ∈ AW := List.mem_append_left _ (List.mem_of_getElem? (i := 290) rfl)
theorem m_291 : (.constant R_Mo 241 (1013904242) : Cond) ∈ AW := List.mem_append_left _ (List.mem_of_getElem? (i := 291) rfl)
theorem m_292 : (.constant R_Mo 242 (-1521486534) : Cond) ∈ AW := List.mem_append_left _ (List.mem_of_getElem? (i := 292) rfl)
theorem m_293 : (.constant R_Mo 243 (1359893119) : Cond) ∈ AW := List.mem_append_left _ (List.mem_of_getElem? (i := 293) rfl)
theorem m_294 : (.constant R_Mo 244 (-1694144372) : Cond) ∈ AW := List.mem_append_left _ (List.mem_of_getElem? (i := 294) rfl)
theorem m_295 : (.constant R_Mo 245 (528734635) : Cond) ∈ AW := List.mem_append_left _ (List.mem_of_getElem? (i := 295) rfl)
theorem m_296 : (.constant R_Mo 246 (1541459225) : Cond) ∈ AW := List.mem_append_left _ (List.mem_of_getElem? (i := 296) rfl)
theorem m_297 : (.code y_Mo_mix prog_14_method_28_code 13 (none) : Cond) ∈ AW := List.mem_append_left _ (List.mem_of_getElem? (i := 297) rfl)
theorem m_298 : (.methodLink R_Mo 247 y_Mo_mix : Cond) ∈ AW := List.mem_append_left _ (List.mem_of_getElem? (i := 298) rfl)
theorem m_299 : (.instanceMethod y_Mo_mix : Cond) ∈ AW := List.mem_append_left _ (List.mem_of_getElem? (i := 299) rfl)
set_option maxRecDepth 100000 in
theorem m_300 : (.selects R_Mo y_Mo_mix y_Mo_mix : Cond) ∈ AW := List.mem_append_left _ (List.mem_of_getElem? (i := 300) rfl)
set_option maxRecDepth 100000 in
theorem m_301 : (.fieldLink R_Mo 155 "ThresholdBenchModel" "sha" "[B" : Cond) ∈ AW := List.mem_append_left _ (List.mem_of_getElem? (i := 301) rfl)
set_option maxRecDepth 100000 in
theorem m_302 : (.fieldLink R_Mo 268 "ThresholdBenchModel" "outSize" "I" : Cond) ∈ AW := List.mem_append_left _ (List.mem_of_getElem? (i := 302) rfl)
set_option maxRecDepth 100000 in
theorem m_303 : (.code y_Mo_hash prog_14_method_27_code 5 (none) : Cond) ∈ AW := List.mem_append_left _ (List.mem_of_getElem? (i := 303) rfl)
set_option maxRecDepth 100000 in
theorem m_304 : (.methodLink R_Mo 256 y_Mo_hash : Cond) ∈ AW := List.mem_append_left _ (List.mem_of_getElem? (i := 304) rfl)
set_option maxRecDepth 100000 in
theorem m_305 : (.instanceMethod y_Mo_hash : Cond) ∈ AW := List.mem_append_left _ (List.mem_of_getElem? (i := 305) rfl)
set_option maxRecDepth 100000 in
theorem m_306 : (.selects R_Mo y_Mo_hash y_Mo_hash : Cond) ∈ AW := List.mem_append_left _ (List.mem_of_getElem? (i := 306) rfl)
set_option maxRecDepth 100000 in
theorem m_307 : (.code y_Mo_tell prog_14_method_33_code 2 (none) : Cond) ∈ AW := List.mem_append_left _ (List.mem_of_getElem? (i := 307) rfl)
set_option maxRecDepth 100000 in
theorem m_308 : (.methodLink R_Mo 271 y_Mo_tell : Cond) ∈ AW := List.mem_append_left _ (List.mem_of_getElem? (i := 308) rfl)
set_option maxRecDepth 100000 in
theorem m_309 : (.instanceMethod y_Mo_tell : Cond) ∈ AW := List.mem_append_left _ (List.mem_of_getElem? (i := 309) rfl)
set_option maxRecDepth 100000 in
theorem m_310 : (.selects R_Mo y_Mo_tell y_Mo_tell : Cond) ∈ AW := List.mem_append_left _ (List.mem_of_getElem? (i := 310) rfl)
set_option maxRecDepth 100000 in
theorem m_311 : (.fieldLink R_Mo 146 "ThresholdBenchModel" "out" "[B" : Cond) ∈ AW := List.mem_append_left _ (List.mem_of_getElem? (i := 311) rfl)
set_option maxRecDepth 100000 in
theorem m_312 : (.code y_Mo_isOf prog_14_method_64_code 2 (some .boolean) : Cond) ∈ AW := List.mem_append_left _ (List.mem_of_getElem? (i := 312) rfl)
set_option maxRecDepth 100000 in
theorem m_313 : (.methodLink R_Mo 378 y_Mo_isOf : Cond) ∈ AW := List.mem_append_left _ (List.mem_of_getElem? (i := 313) rfl)
set_option maxRecDepth 100000 in
theorem m_314 : (.instanceMethod y_Mo_isOf : Cond) ∈ AW := List.mem_append_left _ (List.mem_of_getElem? (i := 314) rfl)
set_option maxRecDepth 100000 in
theorem m_315 : (.selects R_Mo y_Mo_isOf y_Mo_isOf : Cond) ∈ AW := List.mem_append_left _ (List.mem_of_getElem? (i := 315) rfl)
set_option maxRecDepth 100000 in
theorem m_316 : (.fieldLink R_Mo 304 "ThresholdBenchModel" "threshold" "I" : Cond) ∈ AW := List.mem_append_left _ (List.mem_of_getElem? (i := 316) rfl)
set_option maxRecDepth 100000 in
theorem m_317 : (.fieldLink R_Mo 310 "ThresholdBenchModel" "committed" "I" : Cond) ∈ AW := List.mem_append_left _ (List.mem_of_getElem? (i := 317) rfl)
set_option maxRecDepth 100000 in
theorem m_318 : (.fieldLink R_Mo 126 "ThresholdBenchModel" "product" "[J" : Cond) ∈ AW := List.mem_append_left _ (List.mem_of_getElem? (i := 318) rfl)
set_option maxRecDepth 100000 in
theorem m_319 : (.constantLong R_Mo 170 (65535) : Cond) ∈ AW := List.mem_append_left _ (List.mem_of_getElem? (i := 319) rfl)
set_option maxRecDepth 100000 in
theorem m_320 : (.fieldLink R_Mo 122 "ThresholdBenchModel" "v" "[J" : Cond) ∈ AW := List.mem_append_left _ (List.mem_of_getElem? (i := 320) rfl)
set_option maxRecDepth 100000 in
theorem m_321 : (.code y_Mo_carry prog_14_method_4_code 2 (none) : Cond) ∈ AW := List.mem_append_left _ (List.mem_of_getElem? (i := 321) rfl)
set_option maxRecDepth 100000 in
theorem m_322 : (.methodLink R_Mo 180 y_Mo_carry : Cond) ∈ AW := List.mem_append_left _ (List.mem_of_getElem? (i := 322) rfl)
set_option maxRecDepth 100000 in
theorem m_323 : (.instanceMethod y_Mo_carry : Cond) ∈ AW := List.mem_append_left _ (List.mem_of_getElem? (i := 323) rfl)
set_option maxRecDepth 100000 in
theorem m_324 : (.selects R_Mo y_Mo_carry y_Mo_carry : Cond) ∈ AW := List.mem_append_left _ (List.mem_of_getElem? (i := 324) rfl)
set_option maxRecDepth 100000 in
theorem m_325 : (.code y_Mo_isAbove prog_14_method_6_code 3 (some .boolean) : Cond) ∈ AW := List.mem_append_left _ (List.mem_of_getElem? (i := 325) rfl)
set_option maxRecDepth 100000 in
theorem m_326 : (.methodLink R_Mo 183 y_Mo_isAbove : Cond) ∈ AW := List.mem_append_left _ (List.mem_of_getElem? (i := 326) rfl)
set_option maxRecDepth 100000 in
theorem m_327 : (.instanceMethod y_Mo_isAbove : Cond) ∈ AW := List.mem_append_left _ (List.mem_of_getElem? (i := 327) rfl)
set_option maxRecDepth 100000 in
theorem m_328 : (.selects R_Mo y_Mo_isAbove y_Mo_isAbove : Cond) ∈ AW := List.mem_append_left _ (List.mem_of_getElem? (i := 328) rfl)
set_option maxRecDepth 100000 in
theorem m_329 : (.fieldLink R_Mo 129 "ThresholdBenchModel" "folds" "[J" : Cond) ∈ AW := List.mem_append_left _ (List.mem_of_getElem? (i := 329) rfl)
set_option maxRecDepth 100000 in
theorem m_330 : (.methodLink R_Mo 1 objectInit : Cond) ∈ AW := List.mem_append_left _ (List.mem_of_getElem? (i := 330) rfl)
set_option maxRecDepth 100000 in
theorem m_331 : (.constant R_Mo 7 (1116352408) : Cond) ∈ AW := List.mem_append_left _ (List.mem_of_getElem? (i := 331) rfl)
set_option maxRecDepth 100000 in
theorem m_332 : (.constant R_Mo 8 (1899447441) : Cond) ∈ AW := List.mem_append_left _ (List.mem_of_getElem? (i := 332) rfl)
set_option maxRecDepth 100000 in
theorem m_333 : (.constant R_Mo 9 (-1245643825) : Cond) ∈ AW := List.mem_append_left _ (List.mem_of_getElem? (i := 333) rfl)
set_option maxRecDepth 100000 in
theorem m_334 : (.constant R_Mo 10 (-373957723) : Cond) ∈ AW := List.mem_append_left _ (List.mem_of_getElem? (i := 334) rfl)
set_option maxRecDepth 100000 in
theorem m_335 : (.constant R_Mo 11 (961987163) : Cond) ∈ AW := List.mem_append_left _ (List.mem_of_getElem? (i := 335) rfl)
set_option maxRecDepth 100000 in
theorem m_336 : (.constant R_Mo 12 (1508970993) : Cond) ∈ AW := List.mem_append_left _ (List.mem_of_getElem? (i := 336) rfl)
set_option maxRecDepth 100000 in
theorem m_337 : (.constant R_Mo 13 (-1841331548) : Cond) ∈ AW := List.mem_append_left _ (List.mem_of_getElem? (i := 337) rfl)
set_option maxRecDepth 100000 in
theorem m_338 : (.constant R_Mo 14 (-1424204075) : Cond) ∈ AW := List.mem_append_left _ (List.mem_of_getElem? (i := 338) rfl)
set_option maxRecDepth 100000 in
theorem m_339 : (.constant R_Mo 15 (-670586216) : Cond) ∈ AW := List.mem_append_left _ (List.mem_of_getElem? (i := 339) rfl)
set_option maxRecDepth 100000 in
theorem m_340 : (.constant R_Mo 16 (310598401) : Cond) ∈ AW := List.mem_append_left _ (List.mem_of_getElem? (i := 340) rfl)
set_option maxRecDepth 100000 in
theorem m_341 : (.constant R_Mo 17 (607225278) : Cond) ∈ AW := List.mem_append_left _ (List.mem_of_getElem? (i := 341) rfl)
set_option maxRecDepth 100000 in
theorem m_342 : (.constant R_Mo 18 (1426881987) : Cond) ∈ AW := List.mem_append_left _ (List.mem_of_getElem? (i := 342) rfl)
set_option maxRecDepth 100000 in
theorem m_343 : (.constant R_Mo 19 (1925078388) : Cond) ∈ AW := List.mem_append_left _ (List.mem_of_getElem? (i := 343) rfl)
set_option maxRecDepth 100000 in
theorem m_344 : (.constant R_Mo 20 (-2132889090) : Cond) ∈ AW := List.mem_append_left _ (List.mem_of_getElem? (i := 344) rfl)
set_option maxRecDepth 100000 in
theorem m_345 : (.constant R_Mo 21 (-1680079193) : Cond) ∈ AW := List.mem_append_left _ (List.mem_of_getElem? (i := 345) rfl)
set_option maxRecDepth 100000 in
theorem m_346 : (.constant R_Mo 22 (-1046744716) : Cond) ∈ AW := List.mem_append_left _ (List.mem_of_getElem? (i := 346) rfl)
set_option maxRecDepth 100000 in
theorem m_347 : (.constant R_Mo 23 (-459576895) : Cond) ∈ AW := List.mem_append_left _ (List.mem_of_getElem? (i := 347) rfl)
set_option maxRecDepth 100000 in
theorem m_348 : (.constant R_Mo 24 (-272742522) : Cond) ∈ AW := List.mem_append_left _ (List.mem_of_getElem? (i := 348) rfl)
set_option maxRecDepth 100000 in
theorem m_349 : (.constant R_Mo 25 (264347078) : Cond) ∈ AW := List.mem_append_left _ (List.mem_of_getElem? (i := 349) rfl)
set_option maxRecDepth 100000 in
theorem m_350 : (.constant R_Mo 26 (604807628) : Cond) ∈ AW := List.mem_append_left _ (List.mem_of_getElem? (i := 350) rfl)
set_option maxRecDepth 100000 in
theorem m_351 : (.constant R_Mo 27 (770255983) : Cond) ∈ AW := List.mem_append_left _ (List.mem_of_getElem? (i := 351) rfl)
set_option maxRecDepth 100000 in
theorem m_352 : (.constant R_Mo 28 (1249150122) : Cond) ∈ AW := List.mem_append_left _ (List.mem_of_getElem? (i := 352) rfl)
set_option maxRecDepth 100000 in
theorem m_353 : (.constant R_Mo 29 (1555081692) : Cond) ∈ AW := List.mem_append_left _ (List.mem_of_getElem? (i := 353) rfl)
set_option maxRecDepth 100000 in
theorem m_354 : (.constant R_Mo 30 (1996064986) : Cond) ∈ AW := List.mem_append_left _ (List.mem_of_getElem? (i := 354) rfl)
set_option maxRecDepth 100000 in
theorem m_355 : (.constant R_Mo 31 (-1740746414) : Cond) ∈ AW := List.mem_append_left _ (List.mem_of_getElem? (i := 355) rfl)
set_option maxRecDepth 100000 in
theorem m_356 : (.constant R_Mo 32 (-1473132947) : Cond) ∈ AW := List.mem_append_left _ (List.mem_of_getElem? (i := 356) rfl)
set_option maxRecDepth 100000 in
theorem m_357 : (.constant R_Mo 33 (-1341970488) : Cond) ∈ AW := List.mem_append_left _ (List.mem_of_getElem? (i := 357) rfl)
set_option maxRecDepth 100000 in
theorem m_358 : (.constant R_Mo 34 (-1084653625) : Cond) ∈ AW := List.mem_append_left _ (List.mem_of_getElem? (i := 358) rfl)
set_option maxRecDepth 100000 in
theorem m_359 : (.constant R_Mo 35 (-958395405) : Cond) ∈ AW := List.mem_append_left _ (List.mem_of_getElem? (i := 359) rfl)
set_option maxRecDepth 100000 in
theorem m_360 : (.constant R_Mo 36 (-710438585) : Cond) ∈ AW := List.mem_append_left _ (List.mem_of_getElem? (i := 360) rfl)
set_option maxRecDepth 100000 in
theorem m_361 : (.constant R_Mo 37 (113926993) : Cond) ∈ AW := List.mem_append_left _ (List.mem_of_getElem? (i := 361) rfl)
set_option maxRecDepth 100000 in
theorem m_362 : (.constant R_Mo 38 (338241895) : Cond) ∈ AW := List.mem_append_left _ (List.mem_of_getElem? (i := 362) rfl)
set_option maxRecDepth 100000 in
theorem m_363 : (.constant R_Mo 39 (666307205) : Cond) ∈ AW := List.mem_append_left _ (List.mem_of_getElem? (i := 363) rfl)
set_option maxRecDepth 100000 in
theorem m_364 : (.constant R_Mo 40 (773529912) : Cond) ∈ AW := List.mem_append_left _ (List.mem_of_getElem? (i := 364) rfl)
set_option maxRecDepth 100000 in
theorem m_365 : (.constant R_Mo 41 (1294757372) : Cond) ∈ AW := List.mem_append_left _ (List.mem_of_getElem? (i := 365) rfl)
set_option maxRecDepth 100000 in
theorem m_366 : (.constant R_Mo 42 (1396182291) : Cond) ∈ AW := List.mem_append_left _ (List.mem_of_getElem? (i := 366) rfl)
set_option maxRecDepth 100000 in
theorem m_367 : (.constant R_Mo 43 (1695183700) : Cond) ∈ AW := List.mem_append_left _ (List.mem_of_getElem? (i := 367) rfl)
set_option maxRecDepth 100000 in
theorem m_368 : (.constant R_Mo 44 (1986661051) : Cond) ∈ AW := List.mem_append_left _ (List.mem_of_getElem? (i := 368) rfl)
set_option maxRecDepth 100000 in
theorem m_369 : (.constant R_Mo 45 (-2117940946) : Cond) ∈ AW := List.mem_append_left _ (List.mem_of_getElem? (i := 369) rfl)
set_option maxRecDepth 100000 in
theorem m_370 : (.constant R_Mo 46 (-1838011259) : Cond) ∈ AW := List.mem_append_left _ (List.mem_of_getElem? (i := 370) rfl)
set_option maxRecDepth 100000 in
theorem m_371 : (.constant R_Mo 47 (-1564481375) : Cond) ∈ AW := List.mem_append_left _ (List.mem_of_getElem? (i := 371) rfl)
set_option maxRecDepth 100000 in
theorem m_372 : (.constant R_Mo 48 (-1474664885) : Cond) ∈ AW := List.mem_append_left _ (List.mem_of_getElem? (i := 372) rfl)
set_option maxRecDepth 100000 in
theorem m_373 : (.constant R_Mo 49 (-1035236496) : Cond) ∈ AW := List.mem_append_left _ (List.mem_of_getElem? (i := 373) rfl)
set_option maxRecDepth 100000 in
theorem m_374 : (.constant R_Mo 50 (-949202525) : Cond) ∈ AW := List.mem_append_left _ (List.mem_of_getElem? (i := 374) rfl)
set_option maxRecDepth 100000 in
theorem m_375 : (.constant R_Mo 51 (-778901479) : Cond) ∈ AW := List.mem_append_left _ (List.mem_of_getElem? (i := 375) rfl)
set_option maxRecDepth 100000 in
theorem m_376 : (.constant R_Mo 52 (-694614492) : Cond) ∈ AW := List.mem_append_left _ (List.mem_of_getElem? (i := 376) rfl)
set_option maxRecDepth 100000 in
theorem m_377 : (.constant R_Mo 53 (-200395387) : Cond) ∈ AW := List.mem_append_left _ (List.mem_of_getElem? (i := 377) rfl)
set_option maxRecDepth 100000 in
theorem m_378 : (.constant R_Mo 54 (275423344) : Cond) ∈ AW := List.mem_append_left _ (List.mem_of_getElem? (i := 378) rfl)
set_option maxRecDepth 100000 in
theorem m_379 : (.constant R_Mo 55 (430227734) : Cond) ∈ AW := List.mem_append_left _ (List.mem_of_getElem? (i := 379) rfl)
set_option maxRecDepth 100000 in
theorem m_380 : (.constant R_Mo 56 (506948616) : Cond) ∈ AW := List.mem_append_left _ (List.mem_of_getElem? (i := 380) rfl)
set_option maxRecDepth 100000 in
theorem m_381 : (.constant R_Mo 57 (659060556) : Cond) ∈ AW := List.mem_append_left _ (List.mem_of_getElem? (i := 381) rfl)
set_option maxRecDepth 100000 in
theorem m_382 : (.constant R_Mo 58 (883997877) : Cond) ∈ AW := List.mem_append_left _ (List.mem_of_getElem? (i := 382) rfl)
set_option maxRecDepth 100000 in
theorem m_383 : (.constant R_Mo 59 (958139571) : Cond) ∈ AW := List.mem_append_left _ (List.mem_of_getElem? (i := 383) rfl)
set_option maxRecDepth 100000 in
theorem m_384 : (.constant R_Mo 60 (1322822218) : Cond) ∈ AW := List.mem_append_left _ (List.mem_of_getElem? (i := 384) rfl)
set_option maxRecDepth 100000 in
theorem m_385 : (.constant R_Mo 61 (1537002063) : Cond) ∈ AW := List.mem_append_left _ (List.mem_of_getElem? (i := 385) rfl)
set_option maxRecDepth 100000 in
theorem m_386 : (.constant R_Mo 62 (1747873779) : Cond) ∈ AW := List.mem_append_left _ (List.mem_of_getElem? (i := 386) rfl)
set_option maxRecDepth 100000 in
theorem m_387 : (.constant R_Mo 63 (1955562222) : Cond) ∈ AW := List.mem_append_left _ (List.mem_of_getElem? (i := 387) rfl)
set_option maxRecDepth 100000 in
theorem m_388 : (.constant R_Mo 64 (2024104815) : Cond) ∈ AW := List.mem_append_left _ (List.mem_of_getElem? (i := 388) rfl)
set_option maxRecDepth 100000 in
theorem m_389 : (.constant R_Mo 65 (-2067236844) : Cond) ∈ AW := List.mem_append_left _ (List.mem_of_getElem? (i := 389) rfl)
set_option maxRecDepth 100000 in
theorem m_390 : (.constant R_Mo 66 (-1933114872) : Cond) ∈ AW := List.mem_append_left _ (List.mem_of_getElem? (i := 390) rfl)
set_option maxRecDepth 100000 in
theorem m_391 : (.constant R_Mo 67 (-1866530822) : Cond) ∈ AW := List.mem_append_left _ (List.mem_of_getElem? (i := 391) rfl)
set_option maxRecDepth 100000 in
theorem m_392 : (.constant R_Mo 68 (-1538233109) : Cond) ∈ AW := List.mem_append_left _ (List.mem_of_getElem? (i := 392) rfl)
set_option maxRecDepth 100000 in
theorem m_393 : (.constant R_Mo 69 (-1090935817) : Cond) ∈ AW := List.mem_append_left _ (List.mem_of_getElem? (i := 393) rfl)
set_option maxRecDepth 100000 in
theorem m_394 : (.constant R_Mo 70 (-965641998) : Cond) ∈ AW := List.mem_append_left _ (List.mem_of_getElem? (i := 394) rfl)
set_option maxRecDepth 100000 in
theorem m_395 : (.constant R_Mo 77 (65535) : Cond) ∈ AW := List.mem_append_left _ (List.mem_of_getElem? (i := 395) rfl)
set_option maxRecDepth 100000 in
theorem m_396 : (.constant R_Mo 78 (65534) : Cond) ∈ AW := List.mem_append_left _ (List.mem_of_getElem? (i := 396) rfl)
set_option maxRecDepth 100000 in
theorem m_397 : (.constant R_Mo 79 (64559) : Cond) ∈ AW := List.mem_append_left _ (List.mem_of_getElem? (i := 397) rfl)
set_option maxRecDepth 100000 in
theorem m_398 : (.fieldLink R_Mo 80 "ThresholdBenchModel" "modulusP" "[I" : Cond) ∈ AW := List.mem_append_left _ (List.mem_of_getElem? (i := 398) rfl)
set_option maxRecDepth 100000 in
theorem m_399 : (.constant R_Mo 83 (47790) : Cond) ∈ AW := List.mem_append_left _ (List.mem_of_getElem? (i := 399) rfl)
set_option maxRecDepth 100000 in
theorem m_400 : (.constant R_Mo 84 (56550) : Cond) ∈ AW := List.mem_append_left _ (List.mem_of_getElem? (i := 400) rfl)
set_option maxRecDepth 100000 in
theorem m_401 : (.constant R_Mo 85 (44872) : Cond) ∈ AW := List.mem_append_left _ (List.mem_of_getElem? (i := 401) rfl)
set_option maxRecDepth 100000 in
theorem m_402 : (.constant R_Mo 86 (41019) : Cond) ∈ AW := List.mem_append_left _ (List.mem_of_getElem? (i := 402) rfl)
set_option maxRecDepth 100000 in
theorem m_403 : (.constant R_Mo 87 (49106) : Cond) ∈ AW := List.mem_append_left _ (List.mem_of_getElem? (i := 403) rfl)
set_option maxRecDepth 100000 in
theorem m_404 : (.constant R_Mo 88 (53302) : Cond) ∈ AW := List.mem_append_left _ (List.mem_of_getElem? (i := 404) rfl)
set_option maxRecDepth 100000 in
theorem m_405 : (.fieldLink R_Mo 89 "ThresholdBenchModel" "modulusQ" "[I" : Cond) ∈ AW := List.mem_append_left _ (List.mem_of_getElem? (i := 405) rfl)
set_option maxRecDepth 100000 in
theorem m_406 : (.constant R_Mo 92 (63964) : Cond) ∈ AW := List.mem_append_left _ (List.mem_of_getElem? (i := 406) rfl)
set_option maxRecDepth 100000 in
theorem m_407 : (.constant R_Mo 93 (48044) : Cond) ∈ AW := List.mem_append_left _ (List.mem_of_getElem? (i := 407) rfl)
set_option maxRecDepth 100000 in
theorem m_408 : (.constant R_Mo 94 (52871) : Cond) ∈ AW := List.mem_append_left _ (List.mem_of_getElem? (i := 408) rfl)
set_option maxRecDepth 100000 in
theorem m_409 : (.constant R_Mo 95 (64731) : Cond) ∈ AW := List.mem_append_left _ (List.mem_of_getElem? (i := 409) rfl)
set_option maxRecDepth 100000 in
theorem m_410 : (.constant R_Mo 96 (33115) : Cond) ∈ AW := List.mem_append_left _ (List.mem_of_getElem? (i := 410) rfl)
set_option maxRecDepth 100000 in
theorem m_411 : (.fieldLink R_Mo 97 "ThresholdBenchModel" "baseX" "[I" : Cond) ∈ AW := List.mem_append_left _ (List.mem_of_getElem? (i := 411) rfl)
set_option maxRecDepth 100000 in
theorem m_412 : (.constant R_Mo 100 (55927) : Cond) ∈ AW := List.mem_append_left _ (List.mem_of_getElem? (i := 412) rfl)
set_option maxRecDepth 100000 in
theorem m_413 : (.constant R_Mo 101 (50277) : Cond) ∈ AW := List.mem_append_left _ (List.mem_of_getElem? (i := 413) rfl)
set_option maxRecDepth 100000 in
theorem m_414 : (.constant R_Mo 102 (64508) : Cond) ∈ AW := List.mem_append_left _ (List.mem_of_getElem? (i := 414) rfl)
set_option maxRecDepth 100000 in
theorem m_415 : (.constant R_Mo 103 (64791) : Cond) ∈ AW := List.mem_append_left _ (List.mem_of_getElem? (i := 415) rfl)
set_option maxRecDepth 100000 in
theorem m_416 : (.constant R_Mo 104 (46152) : Cond) ∈ AW := List.mem_append_left _ (List.mem_of_getElem? (i := 416) rfl)
set_option maxRecDepth 100000 in
theorem m_417 : (.constant R_Mo 105 (42629) : Cond) ∈ AW := List.mem_append_left _ (List.mem_of_getElem? (i := 417) rfl)
set_option maxRecDepth 100000 in
theorem m_418 : (.constant R_Mo 106 (40007) : Cond) ∈ AW := List.mem_append_left _ (List.mem_of_getElem? (i := 418) rfl)
set_option maxRecDepth 100000 in
theorem m_419 : (.constant R_Mo 107 (53391) : Cond) ∈ AW := List.mem_append_left _ (List.mem_of_getElem? (i := 419) rfl)
set_option maxRecDepth 100000 in
theorem m_420 : (.constant R_Mo 108 (64272) : Cond) ∈ AW := List.mem_append_left _ (List.mem_of_getElem? (i := 420) rfl)
set_option maxRecDepth 100000 in
theorem m_421 : (.constant R_Mo 109 (54456) : Cond) ∈ AW := List.mem_append_left _ (List.mem_of_getElem? (i := 421) rfl)
set_option maxRecDepth 100000 in
theorem m_422 : (.fieldLink R_Mo 110 "ThresholdBenchModel" "baseY" "[I" : Cond) ∈ AW := List.mem_append_left _ (List.mem_of_getElem? (i := 422) rfl)
set_option maxRecDepth 100000 in
theorem m_423 : (.fieldLink R_Mo 113 "ThresholdBenchModel" "context" "[I" : Cond) ∈ AW := List.mem_append_left _ (List.mem_of_getElem? (i := 423) rfl)
set_option maxRecDepth 100000 in
theorem m_424 : (.fieldLink R_Mo 116 "ThresholdBenchModel" "tags" "[I" : Cond) ∈ AW := List.mem_append_left _ (List.mem_of_getElem? (i := 424) rfl)
set_option maxRecDepth 100000 in
theorem m_425 : (.fieldLink R_Mo 119 "ThresholdBenchModel" "tagAt" "[I" : Cond) ∈ AW := List.mem_append_left _ (List.mem_of_getElem? (i := 425) rfl)
set_option maxRecDepth 100000 in
theorem m_426 : (.arrayClass .boolean : Cond) ∈ AW := List.mem_append_left _ (List.mem_of_getElem? (i := 426) rfl)
set_option maxRecDepth 100000 in
theorem m_427 : (.fieldLink R_Mo 132 "ThresholdBenchModel" "zero" "[Z" : Cond) ∈ AW := List.mem_append_left _ (List.mem_of_getElem? (i := 427) rfl)
set_option maxRecDepth 100000 in
theorem m_428 : (.fieldLink R_Mo 136 "ThresholdBenchModel" "isBelow" "[Z" : Cond) ∈ AW := List.mem_append_left _ (List.mem_of_getElem? (i := 428) rfl)
set_option maxRecDepth 100000 in
theorem m_429 : (.fieldLink R_Mo 143 "ThresholdBenchModel" "message" "[B" : Cond) ∈ AW := List.mem_append_left _ (List.mem_of_getElem? (i := 429) rfl)
set_option maxRecDepth 100000 in
theorem m_430 : (.fieldLink R_Mo 149 "ThresholdBenchModel" "list" "[B" : Cond) ∈ AW := List.mem_append_left _ (List.mem_of_getElem? (i := 430) rfl)
set_option maxRecDepth 100000 in
theorem m_431 : (.fieldLink R_Mo 158 "ThresholdBenchModel" "first" "[B" : Cond) ∈ AW := List.mem_append_left _ (List.mem_of_getElem? (i := 431) rfl)
set_option maxRecDepth 100000 in
theorem m_432 : (.fieldLink R_Mo 161 "ThresholdBenchModel" "asked" "[B" : Cond) ∈ AW := List.mem_append_left _ (List.mem_of_getElem? (i := 432) rfl)
set_option maxRecDepth 100000 in
theorem m_433 : (.code y_Mo_reduce prog_14_method_5_code 8 (none) : Cond) ∈ AW := List.mem_append_left _ (List.mem_of_getElem? (i := 433) rfl)
set_option maxRecDepth 100000 in
theorem m_434 : (.methodLink R_Mo 172 y_Mo_reduce : Cond) ∈ AW := List.mem_append_left _ (List.mem_of_getElem? (i := 434) rfl)
set_option maxRecDepth 100000 in
theorem m_435 : (.instanceMethod y_Mo_reduce : Cond) ∈ AW := List.mem_append_left _ (List.mem_of_getElem? (i := 435) rfl)
set_option maxRecDepth 100000 in
theorem m_436 : (.selects R_Mo y_Mo_reduce y_Mo_reduce : Cond) ∈ AW := List.mem_append_left _ (List.mem_of_getElem? (i := 436) rfl)
set_option maxRecDepth 100000 in
theorem m_437 : (.code y_TB_deal prog_1_method_4_code 5 (none) : Cond) ∈ AW := List.mem_append_left _ (List.mem_of_getElem? (i := 437) rfl)
set_option maxRecDepth 100000 in
theorem m_438 : (.methodLink R_La 15 y_TB_deal : Cond) ∈ AW := List.mem_append_left _ (List.mem_of_getElem? (i := 438) rfl)
set_option maxRecDepth 100000 in
theorem m_439 : (.instanceMethod y_TB_deal : Cond) ∈ AW := List.mem_append_left _ (List.mem_of_getElem? (i := 439) rfl)
set_option maxRecDepth 100000 in
theorem m_440 : (.selects R_TB y_TB_deal y_TB_deal : Cond) ∈ AW := List.mem_append_left _ (List.mem_of_getElem? (i := 440) rfl)
set_option maxRecDepth 100000 in
theorem m_441 : (.classLink R_La 13 "java/lang/IllegalArgumentException" : Cond) ∈ AW := List.mem_append_left _ (List.mem_of_getElem? (i := 441) rfl)
set_option maxRecDepth 100000 in
theorem m_442 : (.code y_TB_commit prog_1_method_6_code 3 (none) : Cond) ∈ AW := List.mem_append_left _ (List.mem_of_getElem? (i := 442) rfl)
set_option maxRecDepth 100000 in
theorem m_443 : (.methodLink R_La 27 y_TB_commit : Cond) ∈ AW := List.mem_append_left _ (List.mem_of_getElem? (i := 443) rfl)
set_option maxRecDepth 100000 in
theorem m_444 : (.instanceMethod y_TB_commit : Cond) ∈ AW := List.mem_append_left _ (List.mem_of_getElem? (i := 444) rfl)
set_option maxRecDepth 100000 in
theorem m_445 : (.selects R_TB y_TB_commit y_TB_commit : Cond) ∈ AW := List.mem_append_left _ (List.mem_of_getElem? (i := 445) rfl)
set_option maxRecDepth 100000 in
theorem m_446 : (.classLink R_La 23 "java/lang/IllegalStateException" : Cond) ∈ AW := List.mem_append_left _ (List.mem_of_getElem? (i := 446) rfl)
set_option maxRecDepth 100000 in
theorem m_447 : (.code y_TB_choose prog_1_method_7_code 3 (none) : Cond) ∈ AW := List.mem_append_left _ (List.mem_of_getElem? (i := 447) rfl)
set_option maxRecDepth 100000 in
theorem m_448 : (.methodLink R_La 31 y_TB_choose : Cond) ∈ AW := List.mem_append_left _ (List.mem_of_getElem? (i := 448) rfl)
set_option maxRecDepth 100000 in
theorem m_449 : (.instanceMethod y_TB_choose : Cond) ∈ AW := List.mem_append_left _ (List.mem_of_getElem? (i := 449) rfl)
set_option maxRecDepth 100000 in
theorem m_450 : (.selects R_TB y_TB_choose y_TB_choose : Cond) ∈ AW := List.mem_append_left _ (List.mem_of_getElem? (i := 450) rfl)
set_option maxRecDepth 100000 in
theorem m_451 : (.code y_TB_share prog_1_method_8_code 4 (none) : Cond) ∈ AW := List.mem_append_left _ (List.mem_of_getElem? (i := 451) rfl)
set_option maxRecDepth 100000 in
theorem m_452 : (.methodLink R_La 34 y_TB_share : Cond) ∈ AW := List.mem_append_left _ (List.mem_of_getElem? (i := 452) rfl)
set_option maxRecDepth 100000 in
theorem m_453 : (.instanceMethod y_TB_share : Cond) ∈ AW := List.mem_append_left _ (List.mem_of_getElem? (i := 453) rfl)
set_option maxRecDepth 100000 in
theorem m_454 : (.selects R_TB y_TB_share y_TB_share : Cond) ∈ AW := List.mem_append_left _ (List.mem_of_getElem? (i := 454) rfl)
set_option maxRecDepth 100000 in
theorem m_455 : (.code y_TB_other prog_1_method_9_code 2 (none) : Cond) ∈ AW := List.mem_append_left _ (List.mem_of_getElem? (i := 455) rfl)
set_option maxRecDepth 100000 in
theorem m_456 : (.methodLink R_La 37 y_TB_other : Cond) ∈ AW := List.mem_append_left _ (List.mem_of_getElem? (i := 456) rfl)
set_option maxRecDepth 100000 in
theorem m_457 : (.instanceMethod y_TB_other : Cond) ∈ AW := List.mem_append_left _ (List.mem_of_getElem? (i := 457) rfl)
set_option maxRecDepth 100000 in
theorem m_458 : (.selects R_TB y_TB_other y_TB_other : Cond) ∈ AW := List.mem_append_left _ (List.mem_of_getElem? (i := 458) rfl)
set_option maxRecDepth 100000 in
theorem m_459 : (.code y_TB_change prog_1_method_5_code 3 (some .boolean) : Cond) ∈ AW := List.mem_append_left _ (List.mem_of_getElem? (i := 459) rfl)
set_option maxRecDepth 100000 in
theorem m_460 : (.methodLink R_La 19 y_TB_change : Cond) ∈ AW := List.mem_append_left _ (List.mem_of_getElem? (i := 460) rfl)
set_option maxRecDepth 100000 in
theorem m_461 : (.instanceMethod y_TB_change : Cond) ∈ AW := List.mem_append_left _ (List.mem_of_getElem? (i := 461) rfl)
set_option maxRecDepth 100000 in
theorem m_462 : (.selects R_TB y_TB_change y_TB_change : Cond) ∈ AW := List.mem_append_left _ (List.mem_of_getElem? (i := 462) rfl)
set_option maxRecDepth 100000 in
theorem m_463 : (.code y_TB_right prog_1_method_10_code 2 (some .boolean) : Cond) ∈ AW := List.mem_append_left _ (List.mem_of_getElem? (i := 463) rfl)
set_option maxRecDepth 100000 in
theorem m_464 : (.methodLink R_La 40 y_TB_right : Cond) ∈ AW := List.mem_append_left _ (List.mem_of_getElem? (i := 464) rfl)
set_option maxRecDepth 100000 in
theorem m_465 : (.instanceMethod y_TB_right : Cond) ∈ AW := List.mem_append_left _ (List.mem_of_getElem? (i := 465) rfl)
set_option maxRecDepth 100000 in
theorem m_466 : (.selects R_TB y_TB_right y_TB_right : Cond) ∈ AW := List.mem_append_left _ (List.mem_of_getElem? (i := 466) rfl)
set_option maxRecDepth 100000 in
theorem m_467 : (.code y_TB_gather prog_1_method_11_code 3 (some .int) : Cond) ∈ AW := List.mem_append_left _ (List.mem_of_getElem? (i := 467) rfl)
set_option maxRecDepth 100000 in
theorem m_468 : (.methodLink R_La 43 y_TB_gather : Cond) ∈ AW := List.mem_append_left _ (List.mem_of_getElem? (i := 468) rfl)
set_option maxRecDepth 100000 in
theorem m_469 : (.instanceMethod y_TB_gather : Cond) ∈ AW := List.mem_append_left _ (List.mem_of_getElem? (i := 469) rfl)
set_option maxRecDepth 100000 in
theorem m_470 : (.selects R_TB y_TB_gather y_TB_gather : Cond) ∈ AW := List.mem_append_left _ (List.mem_of_getElem? (i := 470) rfl)
set_option maxRecDepth 100000 in
theorem m_471 : (.code y_TB_holds prog_1_method_12_code 1 (some .boolean) : Cond) ∈ AW := List.mem_append_left _ (List.mem_of_getElem? (i := 471) rfl)
set_option maxRecDepth 100000 in
theorem m_472 : (.methodLink R_La 46 y_TB_holds : Cond) ∈ AW := List.mem_append_left _ (List.mem_of_getElem? (i := 472) rfl)
set_option maxRecDepth 100000 in
theorem m_473 : (.instanceMethod y_TB_holds : Cond) ∈ AW := List.mem_append_left _ (List.mem_of_getElem? (i := 473) rfl)
set_option maxRecDepth 100000 in
theorem m_474 : (.selects R_TB y_TB_holds y_TB_holds : Cond) ∈ AW := List.mem_append_left _ (List.mem_of_getElem? (i := 474) rfl)
set_option maxRecDepth 100000 in
theorem m_475 : (.code y_TB_message prog_1_method_3_code 1 (some .int) : Cond) ∈ AW := List.mem_append_left _ (List.mem_of_getElem? (i := 475) rfl)
set_option maxRecDepth 100000 in
theorem m_476 : (.methodLink R_La 7 y_TB_message : Cond) ∈ AW := List.mem_append_left _ (List.mem_of_getElem? (i := 476) rfl)
set_option maxRecDepth 100000 in
theorem m_477 : (.instanceMethod y_TB_message : Cond) ∈ AW := List.mem_append_left _ (List.mem_of_getElem? (i := 477) rfl)
set_option maxRecDepth 100000 in
theorem m_478 : (.selects R_TB y_TB_message y_TB_message : Cond) ∈ AW := List.mem_append_left _ (List.mem_of_getElem? (i := 478) rfl)
set_option maxRecDepth 100000 in
theorem m_479 : (.classLink R_La 8 R_TB : Cond) ∈ AW := List.mem_append_left _ (List.mem_of_getElem? (i := 479) rfl)
set_option maxRecDepth 100000 in
theorem m_480 : (.instantiable R_TB 19 : Cond) ∈ AW := List.mem_append_left _ (List.mem_of_getElem? (i := 480) rfl)
set_option maxRecDepth 100000 in
theorem m_481 : (.code y_TB_init prog_1_method_1_code 2 (none) : Cond) ∈ AW := List.mem_append_left _ (List.mem_of_getElem? (i := 481) rfl)
set_option maxRecDepth 100000 in
theorem m_482 : (.methodLink R_La 50 y_TB_init : Cond) ∈ AW := List.mem_append_left _ (List.mem_of_getElem? (i := 482) rfl)
set_option maxRecDepth 100000 in
theorem m_483 : (.instanceMethod y_TB_init : Cond) ∈ AW := List.mem_append_left _ (List.mem_of_getElem? (i := 483) rfl)
set_option maxRecDepth 100000 in
theorem m_484 : (.classLink R_La 51 R_Mo : Cond) ∈ AW := List.mem_append_left _ (List.mem_of_getElem? (i := 484) rfl)
set_option maxRecDepth 100000 in
theorem m_485 : (.instantiable R_Mo 34 : Cond) ∈ AW := List.mem_append_left _ (List.mem_of_getElem? (i := 485) rfl)
set_option maxRecDepth 100000 in
theorem m_486 : (.code y_Mo_init prog_14_method_1_code 7 (none) : Cond) ∈ AW := List.mem_append_left _ (List.mem_of_getElem? (i := 486) rfl)
set_option maxRecDepth 100000 in
theorem m_487 : (.methodLink R_La 53 y_Mo_init : Cond) ∈ AW := List.mem_append_left _ (List.mem_of_getElem? (i := 487) rfl)
set_option maxRecDepth 100000 in
theorem m_488 : (.instanceMethod y_Mo_init : Cond) ∈ AW := List.mem_append_left _ (List.mem_of_getElem? (i := 488) rfl)
set_option maxRecDepth 100000 in
theorem m_489 : (.code y_TB_feed prog_1_method_2_code 7 (some .int) : Cond) ∈ AW := List.mem_append_left _ (List.mem_of_getElem? (i := 489) rfl)
set_option maxRecDepth 100000 in
theorem m_490 : (.methodLink R_La 54 y_TB_feed : Cond) ∈ AW := List.mem_append_left _ (List.mem_of_getElem? (i := 490) rfl)
set_option maxRecDepth 100000 in
theorem m_491 : (.instanceMethod y_TB_feed : Cond) ∈ AW := List.mem_append_left _ (List.mem_of_getElem? (i := 491) rfl)
set_option maxRecDepth 100000 in
theorem m_492 : (.selects R_TB y_TB_feed y_TB_feed : Cond) ∈ AW := List.mem_append_left _ (List.mem_of_getElem? (i := 492) rfl)
set_option maxRecDepth 100000 in
theorem m_493 : (.code y_Mo_feed prog_14_method_36_code 9 (some .int) : Cond) ∈ AW := List.mem_append_left _ (List.mem_of_getElem? (i := 493) rfl)
set_option maxRecDepth 100000 in
theorem m_494 : (.methodLink R_La 58 y_Mo_feed : Cond) ∈ AW := List.mem_append_left _ (List.mem_of_getElem? (i := 494) rfl)
set_option maxRecDepth 100000 in
theorem m_495 : (.instanceMethod y_Mo_feed : Cond) ∈ AW := List.mem_append_left _ (List.mem_of_getElem? (i := 495) rfl)
set_option maxRecDepth 100000 in
theorem m_496 : (.selects R_Mo y_Mo_feed y_Mo_feed : Cond) ∈ AW := List.mem_append_left _ (List.mem_of_getElem? (i := 496) rfl)
set_option maxRecDepth 100000 in
theorem m_497 : (.codeWith y_La_message method_3_code 3 (some .int) [(0, 8, 11, 13)] : Cond) ∈ AW := List.mem_append_left _ (List.mem_of_getElem? (i := 497) rfl)
set_option maxRecDepth 100000 in
theorem m_498 : (.methodLink R_La 59 y_La_message : Cond) ∈ AW := List.mem_append_left _ (List.mem_of_getElem? (i := 498) rfl)
set_option maxRecDepth 100000 in
theorem m_499 : (.static y_La_message : Cond) ∈ AW := List.mem_append_left _ (List.mem_of_getElem? (i := 499) rfl)
set_option maxRecDepth 100000 in
theorem m_500 : (.initialized R_La : Cond) ∈ AW := List.mem_append_left _ (List.mem_of_getElem? (i := 500) rfl)
set_option maxRecDepth 100000 in
theorem m_501 : (.code y_Mo_message prog_14_method_39_code 3 (some .int) : Cond) ∈ AW := List.mem_append_left _ (List.mem_of_getElem? (i := 501) rfl)
set_option maxRecDepth 100000 in
theorem m_502 : (.methodLink R_La 64 y_Mo_message : Cond) ∈ AW := List.mem_append_left _ (List.mem_of_getElem? (i := 502) rfl)
set_option maxRecDepth 100000 in
theorem m_503 : (.instanceMethod y_Mo_message : Cond) ∈ AW := List.mem_append_left _ (List.mem_of_getElem? (i := 503) rfl)
set_option maxRecDepth 100000 in
theorem m_504 : (.selects R_Mo y_Mo_message y_Mo_message : Cond) ∈ AW := List.mem_append_left _ (List.mem_of_getElem? (i := 504) rfl)
set_option maxRecDepth 100000 in
theorem m_505 : (.code y_Mo_thrown prog_14_method_2_code 1 (some .int) : Cond) ∈ AW := List.mem_append_left _ (List.mem_of_getElem? (i := 505) rfl)
set_option maxRecDepth 100000 in
theorem m_506 : (.methodLink R_La 65 y_Mo_thrown : Cond) ∈ AW := List.mem_append_left _ (List.mem_of_getElem? (i := 506) rfl)
set_option maxRecDepth 100000 in
theorem m_507 : (.instanceMethod y_Mo_thrown : Cond) ∈ AW := List.mem_append_left _ (List.mem_of_getElem? (i := 507) rfl)
set_option maxRecDepth 100000 in
theorem m_508 : (.selects R_Mo y_Mo_thrown y_Mo_thrown : Cond) ∈ AW := List.mem_append_left _ (List.mem_of_getElem? (i := 508) rfl)
set_option maxRecDepth 100000 in
theorem m_509 : (.codeWith y_La_deal method_4_code 4 (some .int) [(0, 6, 9, 13)] : Cond) ∈ AW := List.mem_append_left _ (List.mem_of_getElem? (i := 509) rfl)
set_option maxRecDepth 100000 in
theorem m_510 : (.methodLink R_La 68 y_La_deal : Cond) ∈ AW := List.mem_append_left _ (List.mem_of_getElem? (i := 510) rfl)
set_option maxRecDepth 100000 in
theorem m_511 : (.static y_La_deal : Cond) ∈ AW := List.mem_append_left _ (List.mem_of_getElem? (i := 511) rfl)
set_option maxRecDepth 100000 in
theorem m_512 : (.code y_Mo_deal prog_14_method_41_code 6 (none) : Cond) ∈ AW := List.mem_append_left _ (List.mem_of_getElem? (i := 512) rfl)
set_option maxRecDepth 100000 in
theorem m_513 : (.methodLink R_La 71 y_Mo_deal : Cond) ∈ AW := List.mem_append_left _ (List.mem_of_getElem? (i := 513) rfl)
set_option maxRecDepth 100000 in
theorem m_514 : (.instanceMethod y_Mo_deal : Cond) ∈ AW := List.mem_append_left _ (List.mem_of_getElem? (i := 514) rfl)
set_option maxRecDepth 100000 in
theorem m_515 : (.selects R_Mo y_Mo_deal y_Mo_deal : Cond) ∈ AW := List.mem_append_left _ (List.mem_of_getElem? (i := 515) rfl)
set_option maxRecDepth 100000 in
theorem m_516 : (.codeWith y_La_change method_5_code 4 (some .int) [(0, 16, 19, 23), (0, 16, 22, 25), (0, 16, 25, 13)] : Cond) ∈ AW := List.mem_append_left _ (List.mem_of_getElem? (i := 516) rfl)
set_option maxRecDepth 100000 in
theorem m_517 : (.methodLink R_La 72 y_La_change : Cond) ∈ AW := List.mem_append_left _ (List.mem_of_getElem? (i := 517) rfl)
set_option maxRecDepth 100000 in
theorem m_518 : (.static y_La_change : Cond) ∈ AW := List.mem_append_left _ (List.mem_of_getElem? (i := 518) rfl)
set_option maxRecDepth 100000 in
theorem m_519 : (.code y_Mo_change prog_14_method_45_code 3 (some .boolean) : Cond) ∈ AW := List.mem_append_left _ (List.mem_of_getElem? (i := 519) rfl)
set_option maxRecDepth 100000 in
theorem m_520 : (.methodLink R_La 75 y_Mo_change : Cond) ∈ AW := List.mem_append_left _ (List.mem_of_getElem? (i := 520) rfl)
set_option maxRecDepth 100000 in
theorem m_521 : (.instanceMethod y_Mo_change : Cond) ∈ AW := List.mem_append_left _ (List.mem_of_getElem? (i := 521) rfl)
set_option maxRecDepth 100000 in
theorem m_522 : (.selects R_Mo y_Mo_change y_Mo_change : Cond) ∈ AW := List.mem_append_left _ (List.mem_of_getElem? (i := 522) rfl)
set_option maxRecDepth 100000 in
theorem m_523 : (.codeWith y_La_commit method_6_code 3 (some .int) [(0, 5, 8, 23), (0, 5, 11, 25), (0, 5, 14, 13)] : Cond) ∈ AW := List.mem_append_left _ (List.mem_of_getElem? (i := 523) rfl)
set_option maxRecDepth 100000 in
theorem m_524 : (.methodLink R_La 76 y_La_commit : Cond) ∈ AW := List.mem_append_left _ (List.mem_of_getElem? (i := 524) rfl)
set_option maxRecDepth 100000 in
theorem m_525 : (.static y_La_commit : Cond) ∈ AW := List.mem_append_left _ (List.mem_of_getElem? (i := 525) rfl)
set_option maxRecDepth 100000 in
theorem m_526 : (.code y_Mo_commit prog_14_method_47_code 3 (none) : Cond) ∈ AW := List.mem_append_left _ (List.mem_of_getElem? (i := 526) rfl)
set_option maxRecDepth 100000 in
theorem m_527 : (.methodLink R_La 79 y_Mo_commit : Cond) ∈ AW := List.mem_append_left _ (List.mem_of_getElem? (i := 527) rfl)
set_option maxRecDepth 100000 in
theorem m_528 : (.instanceMethod y_Mo_commit : Cond) ∈ AW := List.mem_append_left _ (List.mem_of_getElem? (i := 528) rfl)
set_option maxRecDepth 100000 in
theorem m_529 : (.selects R_Mo y_Mo_commit y_Mo_commit : Cond) ∈ AW := List.mem_append_left _ (List.mem_of_getElem? (i := 529) rfl)
set_option maxRecDepth 100000 in
theorem m_530 : (.codeWith y_La_choose method_7_code 3 (some .int) [(0, 5, 8, 23), (0, 5, 11, 13)] : Cond) ∈ AW := List.mem_append_left _ (List.mem_of_getElem? (i := 530) rfl)
set_option maxRecDepth 100000 in
theorem m_531 : (.methodLink R_La 80 y_La_choose : Cond) ∈ AW := List.mem_append_left _ (List.mem_of_getElem? (i := 531) rfl)
set_option maxRecDepth 100000 in
theorem m_532 : (.static y_La_choose : Cond) ∈ AW := List.mem_append_left _ (List.mem_of_getElem? (i := 532) rfl)
set_option maxRecDepth 100000 in
theorem m_533 : (.code y_Mo_choose prog_14_method_53_code 5 (none) : Cond) ∈ AW := List.mem_append_left _ (List.mem_of_getElem? (i := 533) rfl)
set_option maxRecDepth 100000 in
theorem m_534 : (.methodLink R_La 82 y_Mo_choose : Cond) ∈ AW := List.mem_append_left _ (List.mem_of_getElem? (i := 534) rfl)
set_option maxRecDepth 100000 in
theorem m_535 : (.instanceMethod y_Mo_choose : Cond) ∈ AW := List.mem_append_left _ (List.mem_of_getElem? (i := 535) rfl)
set_option maxRecDepth 100000 in
theorem m_536 : (.selects R_Mo y_Mo_choose y_Mo_choose : Cond) ∈ AW := List.mem_append_left _ (List.mem_of_getElem? (i := 536) rfl)
set_option maxRecDepth 100000 in
theorem m_537 : (.codeWith y_La_share method_8_code 3 (some .int) [(0, 5, 8, 23), (0, 5, 11, 25), (0, 5, 14, 13)] : Cond) ∈ AW := List.mem_append_left _ (List.mem_of_getElem? (i := 537) rfl)
set_option maxRecDepth 100000 in
theorem m_538 : (.methodLink R_La 83 y_La_share : Cond) ∈ AW := List.mem_append_left _ (List.mem_of_getElem? (i := 538) rfl)
set_option maxRecDepth 100000 in
theorem m_539 : (.static y_La_share : Cond) ∈ AW := List.mem_append_left _ (List.mem_of_getElem? (i := 539) rfl)
set_option maxRecDepth 100000 in
theorem m_540 : (.code y_Mo_share prog_14_method_56_code 2 (none) : Cond) ∈ AW := List.mem_append_left _ (List.mem_of_getElem? (i := 540) rfl)
set_option maxRecDepth 100000 in
theorem m_541 : (.methodLink R_La 85 y_Mo_share : Cond) ∈ AW := List.mem_append_left _ (List.mem_of_getElem? (i := 541) rfl)
set_option maxRecDepth 100000 in
theorem m_542 : (.instanceMethod y_Mo_share : Cond) ∈ AW := List.mem_append_left _ (List.mem_of_getElem? (i := 542) rfl)
set_option maxRecDepth 100000 in
theorem m_543 : (.selects R_Mo y_Mo_share y_Mo_share : Cond) ∈ AW := List.mem_append_left _ (List.mem_of_getElem? (i := 543) rfl)
set_option maxRecDepth 100000 in
theorem m_544 : (.codeWith y_La_other method_9_code 3 (some .int) [(0, 5, 8, 23), (0, 5, 11, 25), (0, 5, 14, 13)] : Cond) ∈ AW := List.mem_append_left _ (List.mem_of_getElem? (i := 544) rfl)
set_option maxRecDepth 100000 in
theorem m_545 : (.methodLink R_La 86 y_La_other : Cond) ∈ AW := List.mem_append_left _ (List.mem_of_getElem? (i := 545) rfl)
set_option maxRecDepth 100000 in
theorem m_546 : (.static y_La_other : Cond) ∈ AW := List.mem_append_left _ (List.mem_of_getElem? (i := 546) rfl)
set_option maxRecDepth 100000 in
theorem m_547 : (.code y_Mo_other prog_14_method_57_code 3 (none) : Cond) ∈ AW := List.mem_append_left _ (List.mem_of_getElem? (i := 547) rfl)
set_option maxRecDepth 100000 in
theorem m_548 : (.methodLink R_La 88 y_Mo_other : Cond) ∈ AW := List.mem_append_left _ (List.mem_of_getElem? (i := 548) rfl)
set_option maxRecDepth 100000 in
theorem m_549 : (.instanceMethod y_Mo_other : Cond) ∈ AW := List.mem_append_left _ (List.mem_of_getElem? (i := 549) rfl)
set_option maxRecDepth 100000 in
theorem m_550 : (.selects R_Mo y_Mo_other y_Mo_other : Cond) ∈ AW := List.mem_append_left _ (List.mem_of_getElem? (i := 550) rfl)
set_option maxRecDepth 100000 in
theorem m_551 : (.codeWith y_La_right method_10_code 4 (some .int) [(0, 16, 19, 23), (0, 16, 22, 25), (0, 16, 25, 13)] : Cond) ∈ AW := List.mem_append_left _ (List.mem_of_getElem? (i := 551) rfl)
set_option maxRecDepth 100000 in
theorem m_552 : (.methodLink R_La 89 y_La_right : Cond) ∈ AW := List.mem_append_left _ (List.mem_of_getElem? (i := 552) rfl)
set_option maxRecDepth 100000 in
theorem m_553 : (.static y_La_right : Cond) ∈ AW := List.mem_append_left _ (List.mem_of_getElem? (i := 553) rfl)
set_option maxRecDepth 100000 in
theorem m_554 : (.code y_Mo_right prog_14_method_59_code 2 (some .boolean) : Cond) ∈ AW := List.mem_append_left _ (List.mem_of_getElem? (i := 554) rfl)
set_option maxRecDepth 100000 in
theorem m_555 : (.methodLink R_La 91 y_Mo_right : Cond) ∈ AW := List.mem_append_left _ (List.mem_of_getElem? (i := 555) rfl)
set_option maxRecDepth 100000 in
theorem m_556 : (.instanceMethod y_Mo_right : Cond) ∈ AW := List.mem_append_left _ (List.mem_of_getElem? (i := 556) rfl)
set_option maxRecDepth 100000 in
theorem m_557 : (.selects R_Mo y_Mo_right y_Mo_right : Cond) ∈ AW := List.mem_append_left _ (List.mem_of_getElem? (i := 557) rfl)
set_option maxRecDepth 100000 in
theorem m_558 : (.codeWith y_La_gather method_11_code 3 (some .int) [(0, 8, 11, 23)] : Cond) ∈ AW := List.mem_append_left _ (List.mem_of_getElem? (i := 558) rfl)
set_option maxRecDepth 100000 in
theorem m_559 : (.methodLink R_La 92 y_La_gather : Cond) ∈ AW := List.mem_append_left _ (List.mem_of_getElem? (i := 559) rfl)
set_option maxRecDepth 100000 in
theorem m_560 : (.static y_La_gather : Cond) ∈ AW := List.mem_append_left _ (List.mem_of_getElem? (i := 560) rfl)
set_option maxRecDepth 100000 in
theorem m_561 : (.code y_Mo_gather prog_14_method_61_code 4 (some .int) : Cond) ∈ AW := List.mem_append_left _ (List.mem_of_getElem? (i := 561) rfl)
set_option maxRecDepth 100000 in
theorem m_562 : (.methodLink R_La 94 y_Mo_gather : Cond) ∈ AW := List.mem_append_left _ (List.mem_of_getElem? (i := 562) rfl)
set_option maxRecDepth 100000 in
theorem m_563 : (.instanceMethod y_Mo_gather : Cond) ∈ AW := List.mem_append_left _ (List.mem_of_getElem? (i := 563) rfl)
set_option maxRecDepth 100000 in
theorem m_564 : (.selects R_Mo y_Mo_gather y_Mo_gather : Cond) ∈ AW := List.mem_append_left _ (List.mem_of_getElem? (i := 564) rfl)
set_option maxRecDepth 100000 in
theorem m_565 : (.codeWith y_La_holds method_12_code 3 (some .int) [(0, 15, 18, 23)] : Cond) ∈ AW := List.mem_append_left _ (List.mem_of_getElem? (i := 565) rfl)
set_option maxRecDepth 100000 in
theorem m_566 : (.methodLink R_La 95 y_La_holds : Cond) ∈ AW := List.mem_append_left _ (List.mem_of_getElem? (i := 566) rfl)
set_option maxRecDepth 100000 in
theorem m_567 : (.static y_La_holds : Cond) ∈ AW := List.mem_append_left _ (List.mem_of_getElem? (i := 567) rfl)
set_option maxRecDepth 100000 in
theorem m_568 : (.code y_Mo_holds prog_14_method_63_code 2 (some .boolean) : Cond) ∈ AW := List.mem_append_left _ (List.mem_of_getElem? (i := 568) rfl)
set_option maxRecDepth 100000 in
theorem m_569 : (.methodLink R_La 97 y_Mo_holds : Cond) ∈ AW := List.mem_append_left _ (List.mem_of_getElem? (i := 569) rfl)
set_option maxRecDepth 100000 in
theorem m_570 : (.instanceMethod y_Mo_holds : Cond) ∈ AW := List.mem_append_left _ (List.mem_of_getElem? (i := 570) rfl)
set_option maxRecDepth 100000 in
theorem m_571 : (.selects R_Mo y_Mo_holds y_Mo_holds : Cond) ∈ AW := List.mem_append_left _ (List.mem_of_getElem? (i := 571) rfl)
set_option maxRecDepth 100000 in
theorem m_572 : (.code y_TB_show prog_1_method_13_code 3 (some .int) : Cond) ∈ AW := List.mem_append_left _ (List.mem_of_getElem? (i := 572) rfl)
set_option maxRecDepth 100000 in
theorem m_573 : (.methodLink R_La 98 y_TB_show : Cond) ∈ AW := List.mem_append_left _ (List.mem_of_getElem? (i := 573) rfl)
set_option maxRecDepth 100000 in
theorem m_574 : (.instanceMethod y_TB_show : Cond) ∈ AW := List.mem_append_left _ (List.mem_of_getElem? (i := 574) rfl)
set_option maxRecDepth 100000 in
theorem m_575 : (.selects R_TB y_TB_show y_TB_show : Cond) ∈ AW := List.mem_append_left _ (List.mem_of_getElem? (i := 575) rfl)
set_option maxRecDepth 100000 in
theorem m_576 : (.code y_Mo_show prog_14_method_65_code 6 (some .int) : Cond) ∈ AW := List.mem_append_left _ (List.mem_of_getElem? (i := 576) rfl)
set_option maxRecDepth 100000 in
theorem m_577 : (.methodLink R_La 102 y_Mo_show : Cond) ∈ AW := List.mem_append_left _ (List.mem_of_getElem? (i := 577) rfl)
set_option maxRecDepth 100000 in
theorem m_578 : (.instanceMethod y_Mo_show : Cond) ∈ AW := List.mem_append_left _ (List.mem_of_getElem? (i := 578) rfl)
set_option maxRecDepth 100000 in
theorem m_579 : (.selects R_Mo y_Mo_show y_Mo_show : Cond) ∈ AW := List.mem_append_left _ (List.mem_of_getElem? (i := 579) rfl)
set_option maxRecDepth 100000 in
theorem m_580 : (.code y_TB_output prog_1_method_14_code 2 (some .int) : Cond) ∈ AW := List.mem_append_left _ (List.mem_of_getElem? (i := 580) rfl)
set_option maxRecDepth 100000 in
theorem m_581 : (.methodLink R_La 103 y_TB_output : Cond) ∈ AW := List.mem_append_left _ (List.mem_of_getElem? (i := 581) rfl)
set_option maxRecDepth 100000 in
theorem m_582 : (.instanceMethod y_TB_output : Cond) ∈ AW := List.mem_append_left _ (List.mem_of_getElem? (i := 582) rfl)
set_option maxRecDepth 100000 in
theorem m_583 : (.selects R_TB y_TB_output y_TB_output : Cond) ∈ AW := List.mem_append_left _ (List.mem_of_getElem? (i := 583) rfl)
set_option maxRecDepth 100000 in
theorem m_584 : (.code y_Mo_output prog_14_method_66_code 2 (some .int) : Cond) ∈ AW := List.mem_append_left _ (List.mem_of_getElem? (i := 584) rfl)
set_option maxRecDepth 100000 in
theorem m_585 : (.methodLink R_La 107 y_Mo_output : Cond) ∈ AW := List.mem_append_left _ (List.mem_of_getElem? (i := 585) rfl)
set_option maxRecDepth 100000 in
theorem m_586 : (.instanceMethod y_Mo_output : Cond) ∈ AW := List.mem_append_left _ (List.mem_of_getElem? (i := 586) rfl)
set_option maxRecDepth 100000 in
theorem m_587 : (.selects R_Mo y_Mo_output y_Mo_output : Cond) ∈ AW := List.mem_append_left _ (List.mem_of_getElem? (i := 587) rfl)
set_option maxRecDepth 100000 in
theorem m_588 : (.code y_TB_about prog_1_method_15_code 2 (some .int) : Cond) ∈ AW := List.mem_append_left _ (List.mem_of_getElem? (i := 588) rfl)
set_option maxRecDepth 100000 in
theorem m_589 : (.methodLink R_La 108 y_TB_about : Cond) ∈ AW := List.mem_append_left _ (List.mem_of_getElem? (i := 589) rfl)
set_option maxRecDepth 100000 in
theorem m_590 : (.instanceMethod y_TB_about : Cond) ∈ AW := List.mem_append_left _ (List.mem_of_getElem? (i := 590) rfl)
set_option maxRecDepth 100000 in
theorem m_591 : (.selects R_TB y_TB_about y_TB_about : Cond) ∈ AW := List.mem_append_left _ (List.mem_of_getElem? (i := 591) rfl)
set_option maxRecDepth 100000 in
theorem m_592 : (.code y_Mo_about prog_14_method_67_code 2 (some .int) : Cond) ∈ AW := List.mem_append_left _ (List.mem_of_getElem? (i := 592) rfl)
set_option maxRecDepth 100000 in
theorem m_593 : (.methodLink R_La 111 y_Mo_about : Cond) ∈ AW := List.mem_append_left _ (List.mem_of_getElem? (i := 593) rfl)
set_option maxRecDepth 100000 in
theorem m_594 : (.instanceMethod y_Mo_about : Cond) ∈ AW := List.mem_append_left _ (List.mem_of_getElem? (i := 594) rfl)
set_option maxRecDepth 100000 in
theorem m_595 : (.selects R_Mo y_Mo_about y_Mo_about : Cond) ∈ AW := List.mem_append_left _ (List.mem_of_getElem? (i := 595) rfl)
set_option maxRecDepth 100000 in
theorem m_596 : (.lays R_TB "ThresholdBench" "tape" "LThresholdBench$Row;" : Cond) ∈ AW := List.mem_append_left _ (List.mem_of_getElem? (i := 596) rfl)
set_option maxRecDepth 100000 in
theorem m_597 : (.lays R_TB "ThresholdBench" "taken" "LThresholdBench$Row;" : Cond) ∈ AW := List.mem_append_left _ (List.mem_of_getElem? (i := 597) rfl)
set_option maxRecDepth 100000 in
theorem m_598 : (.laysFinal R_TB "ThresholdBench" "text" "LThresholdBench$Row;" : Cond) ∈ AW := List.mem_append_left _ (List.mem_of_getElem? (i := 598) rfl)
set_option maxRecDepth 100000 in
theorem m_599 : (.laysFinal R_TB "ThresholdBench" "shown" "LThresholdBench$Row;" : Cond) ∈ AW := List.mem_append_left _ (List.mem_of_getElem? (i := 599) rfl)
set_option maxRecDepth 100000 in
theorem m_600 : (.lays R_TB "ThresholdBench" "threshold" "I" : Cond) ∈ AW := List.mem_append_left _ (List.mem_of_getElem? (i := 600) rfl)
set_option maxRecDepth 100000 in
theorem m_601 : (.lays R_TB "ThresholdBench" "size" "I" : Cond) ∈ AW := List.mem_append_left _ (List.mem_of_getElem? (i := 601) rfl)
set_option maxRecDepth 100000 in
theorem m_602 : (.lays R_TB "ThresholdBench" "committed" "I" : Cond) ∈ AW := List.mem_append_left _ (List.mem_of_getElem? (i := 602) rfl)
set_option maxRecDepth 100000 in
theorem m_603 : (.laysFinal R_TB "ThresholdBench" "participants" "[LThresholdBench$Participant;" : Cond) ∈ AW := List.mem_append_left _ (List.mem_of_getElem? (i := 603) rfl)
set_option maxRecDepth 100000 in
theorem m_604 : (.laysFinal R_TB "ThresholdBench" "coefficientPoints" "[LThresholdBench$Point;" : Cond) ∈ AW := List.mem_append_left _ (List.mem_of_getElem? (i := 604) rfl)
set_option maxRecDepth 100000 in
theorem m_605 : (.lays R_TB "ThresholdBench" "signing" "LThresholdBench$Signing;" : Cond) ∈ AW := List.mem_append_left _ (List.mem_of_getElem? (i := 605) rfl)
set_option maxRecDepth 100000 in
theorem m_606 : (.lays R_TB "ThresholdBench" "spare" "LThresholdBench$Signing;" : Cond) ∈ AW := List.mem_append_left _ (List.mem_of_getElem? (i := 606) rfl)
set_option maxRecDepth 100000 in
theorem m_607 : (.laysFinal R_TB "ThresholdBench" "scalars" "LThresholdBench$Scalars;" : Cond) ∈ AW := List.mem_append_left _ (List.mem_of_getElem? (i := 607) rfl)
set_option maxRecDepth 100000 in
theorem m_608 : (.laysFinal R_TB "ThresholdBench" "curve" "LThresholdBench$Curve;" : Cond) ∈ AW := List.mem_append_left _ (List.mem_of_getElem? (i := 608) rfl)
set_option maxRecDepth 100000 in
theorem m_609 : (.laysFinal R_TB "ThresholdBench" "digests" "LThresholdBench$Digests;" : Cond) ∈ AW := List.mem_append_left _ (List.mem_of_getElem? (i := 609) rfl)
set_option maxRecDepth 100000 in
theorem m_610 : (.laysFinal R_TB "ThresholdBench" "drawn" "[[I" : Cond) ∈ AW := List.mem_append_left _ (List.mem_of_getElem? (i := 610) rfl)
set_option maxRecDepth 100000 in
theorem m_611 : (.laysFinal R_TB "ThresholdBench" "first" "[I" : Cond) ∈ AW := List.mem_append_left _ (List.mem_of_getElem? (i := 611) rfl)
set_option maxRecDepth 100000 in
theorem m_612 : (.laysFinal R_TB "ThresholdBench" "second" "[I" : Cond) ∈ AW := List.mem_append_left _ (List.mem_of_getElem? (i := 612) rfl)
set_option maxRecDepth 100000 in
theorem m_613 : (.laysFinal R_TB "ThresholdBench" "left" "LThresholdBench$Point;" : Cond) ∈ AW := List.mem_append_left _ (List.mem_of_getElem? (i := 613) rfl)
set_option maxRecDepth 100000 in
theorem m_614 : (.laysFinal R_TB "ThresholdBench" "otherSide" "LThresholdBench$Point;" : Cond) ∈ AW := List.mem_append_left _ (List.mem_of_getElem? (i := 614) rfl)
set_option maxRecDepth 100000 in
theorem m_615 : (.laysFinal R_Row "ThresholdBench$Row" "bytes" "[B" : Cond) ∈ AW := List.mem_append_left _ (List.mem_of_getElem? (i := 615) rfl)
set_option maxRecDepth 100000 in
theorem m_616 : (.lays R_Row "ThresholdBench$Row" "length" "I" : Cond) ∈ AW := List.mem_append_left _ (List.mem_of_getElem? (i := 616) rfl)
set_option maxRecDepth 100000 in
theorem m_617 : (.lays R_Sig "ThresholdBench$Signing" "set" "I" : Cond) ∈ AW := List.mem_append_left _ (List.mem_of_getElem? (i := 617) rfl)
set_option maxRecDepth 100000 in
theorem m_618 : (.lays R_Sig "ThresholdBench$Signing" "given" "I" : Cond) ∈ AW := List.mem_append_left _ (List.mem_of_getElem? (i := 618) rfl)
set_option maxRecDepth 100000 in
theorem m_619 : (.laysFinal R_Sig "ThresholdBench$Signing" "commitment" "LThresholdBench$Point;" : Cond) ∈ AW := List.mem_append_left _ (List.mem_of_getElem? (i := 619) rfl)
set_option maxRecDepth 100000 in
theorem m_620 : (.laysFinal R_Sig "ThresholdBench$Signing" "challenge" "[I" : Cond) ∈ AW := List.mem_append_left _ (List.mem_of_getElem? (i := 620) rfl)
set_option maxRecDepth 100000 in
theorem m_621 : (.laysFinal R_Sig "ThresholdBench$Signing" "factors" "[[I" : Cond) ∈ AW := List.mem_append_left _ (List.mem_of_getElem? (i := 621) rfl)
set_option maxRecDepth 100000 in
theorem m_622 : (.laysFinal R_Sig "ThresholdBench$Signing" "weights" "[[I" : Cond) ∈ AW := List.mem_append_left _ (List.mem_of_getElem? (i := 622) rfl)
set_option maxRecDepth 100000 in
theorem m_623 : (.laysFinal R_Sig "ThresholdBench$Signing" "shares" "[[I" : Cond) ∈ AW := List.mem_append_left _ (List.mem_of_getElem? (i := 623) rfl)
set_option maxRecDepth 100000 in
theorem m_624 : (.laysFinal R_Sca "ThresholdBench$Scalars" "wide" "[I" : Cond) ∈ AW := List.mem_append_left _ (List.mem_of_getElem? (i := 624) rfl)
set_option maxRecDepth 100000 in
theorem m_625 : (.laysFinal R_Sca "ThresholdBench$Scalars" "high" "[I" : Cond) ∈ AW := List.mem_append_left _ (List.mem_of_getElem? (i := 625) rfl)
set_option maxRecDepth 100000 in
theorem m_626 : (.laysFinal R_Fie "ThresholdBench$Field" "wide" "[J" : Cond) ∈ AW := List.mem_append_left _ (List.mem_of_getElem? (i := 626) rfl)
set_option maxRecDepth 100000 in
theorem m_627 : (.laysFinal R_Fie "ThresholdBench$Field" "probe" "[J" : Cond) ∈ AW := List.mem_append_left _ (List.mem_of_getElem? (i := 627) rfl)
set_option maxRecDepth 100000 in
theorem m_628 : (.laysFinal R_Fie "ThresholdBench$Field" "power" "[J" : Cond) ∈ AW := List.mem_append_left _ (List.mem_of_getElem? (i := 628) rfl)
set_option maxRecDepth 100000 in
theorem m_629 : (.laysFinal R_Fie "ThresholdBench$Field" "ones2" "[J" : Cond) ∈ AW := List.mem_append_left _ (List.mem_of_getElem? (i := 629) rfl)
set_option maxRecDepth 100000 in
theorem m_630 : (.laysFinal R_Fie "ThresholdBench$Field" "ones3" "[J" : Cond) ∈ AW := List.mem_append_left _ (List.mem_of_getElem? (i := 630) rfl)
set_option maxRecDepth 100000 in
theorem m_631 : (.laysFinal R_Fie "ThresholdBench$Field" "ones22" "[J" : Cond) ∈ AW := List.mem_append_left _ (List.mem_of_getElem? (i := 631) rfl)
set_option maxRecDepth 100000 in
theorem m_632 : (.laysFinal R_Fie "ThresholdBench$Field" "ones44" "[J" : Cond) ∈ AW := List.mem_append_left _ (List.mem_of_getElem? (i := 632) rfl)
set_option maxRecDepth 100000 in
theorem m_633 : (.laysFinal R_Fie "ThresholdBench$Field" "ones" "[J" : Cond) ∈ AW := List.mem_append_left _ (List.mem_of_getElem? (i := 633) rfl)
set_option maxRecDepth 100000 in
theorem m_634 : (.laysFinal R_Cur "ThresholdBench$Curve" "field" "LThresholdBench$Field;" : Cond) ∈ AW := List.mem_append_left _ (List.mem_of_getElem? (i := 634) rfl)
set_option maxRecDepth 100000 in
theorem m_635 : (.laysFinal R_Cur "ThresholdBench$Curve" "a" "[J" : Cond) ∈ AW := List.mem_append_left _ (List.mem_of_getElem? (i := 635) rfl)
set_option maxRecDepth 100000 in
theorem m_636 : (.laysFinal R_Cur "ThresholdBench$Curve" "b" "[J" : Cond) ∈ AW := List.mem_append_left _ (List.mem_of_getElem? (i := 636) rfl)
set_option maxRecDepth 100000 in
theorem m_637 : (.laysFinal R_Cur "ThresholdBench$Curve" "c" "[J" : Cond) ∈ AW := List.mem_append_left _ (List.mem_of_getElem? (i := 637) rfl)
set_option maxRecDepth 100000 in
theorem m_638 : (.laysFinal R_Cur "ThresholdBench$Curve" "d" "[J" : Cond) ∈ AW := List.mem_append_left _ (List.mem_of_getElem? (i := 638) rfl)
set_option maxRecDepth 100000 in
theorem m_639 : (.laysFinal R_Cur "ThresholdBench$Curve" "e" "[J" : Cond) ∈ AW := List.mem_append_left _ (List.mem_of_getElem? (i := 639) rfl)
set_option maxRecDepth 100000 in
theorem m_640 : (.laysFinal R_Cur "ThresholdBench$Curve" "words" "[I" : Cond) ∈ AW := List.mem_append_left _ (List.mem_of_getElem? (i := 640) rfl)
set_option maxRecDepth 100000 in
theorem m_641 : (.laysFinal R_Cur "ThresholdBench$Curve" "tooth" "LThresholdBench$Point;" : Cond) ∈ AW := List.mem_append_left _ (List.mem_of_getElem? (i := 641) rfl)
set_option maxRecDepth 100000 in
theorem m_642 : (.laysFinal R_Cur "ThresholdBench$Curve" "terms" "[LThresholdBench$Term;" : Cond) ∈ AW := List.mem_append_left _ (List.mem_of_getElem? (i := 642) rfl)
set_option maxRecDepth 100000 in
theorem m_643 : (.lays R_Cur "ThresholdBench$Curve" "termCount" "I" : Cond) ∈ AW := List.mem_append_left _ (List.mem_of_getElem? (i := 643) rfl)
set_option maxRecDepth 100000 in
theorem m_644 : (.laysFinal R_Poi "ThresholdBench$Point" "x" "[J" : Cond) ∈ AW := List.mem_append_left _ (List.mem_of_getElem? (i := 644) rfl)
set_option maxRecDepth 100000 in
theorem m_645 : (.laysFinal R_Poi "ThresholdBench$Point" "y" "[J" : Cond) ∈ AW := List.mem_append_left _ (List.mem_of_getElem? (i := 645) rfl)
set_option maxRecDepth 100000 in
theorem m_646 : (.laysFinal R_Poi "ThresholdBench$Point" "z" "[J" : Cond) ∈ AW := List.mem_append_left _ (List.mem_of_getElem? (i := 646) rfl)
set_option maxRecDepth 100000 in
theorem m_647 : (.lays R_Poi "ThresholdBench$Point" "zero" "Z" : Cond) ∈ AW := List.mem_append_left _ (List.mem_of_getElem? (i := 647) rfl)
set_option maxRecDepth 100000 in
theorem m_648 : (.laysFinal R_Ter "ThresholdBench$Term" "base" "LThresholdBench$Point;" : Cond) ∈ AW := List.mem_append_left _ (List.mem_of_getElem? (i := 648) rfl)
set_option maxRecDepth 100000 in
theorem m_649 : (.laysFinal R_Ter "ThresholdBench$Term" "factor" "[I" : Cond) ∈ AW := List.mem_append_left _ (List.mem_of_getElem? (i := 649) rfl)
set_option maxRecDepth 100000 in
theorem m_650 : (.laysFinal R_Par "ThresholdBench$Participant" "dealt" "[I" : Cond) ∈ AW := List.mem_append_left _ (List.mem_of_getElem? (i := 650) rfl)
set_option maxRecDepth 100000 in
theorem m_651 : (.laysFinal R_Par "ThresholdBench$Participant" "secret" "[I" : Cond) ∈ AW := List.mem_append_left _ (List.mem_of_getElem? (i := 651) rfl)
set_option maxRecDepth 100000 in
theorem m_652 : (.laysFinal R_Par "ThresholdBench$Participant" "hiding" "[I" : Cond) ∈ AW := List.mem_append_left _ (List.mem_of_getElem? (i := 652) rfl)
set_option maxRecDepth 100000 in
theorem m_653 : (.laysFinal R_Par "ThresholdBench$Participant" "binding" "[I" : Cond) ∈ AW := List.mem_append_left _ (List.mem_of_getElem? (i := 653) rfl)
set_option maxRecDepth 100000 in
theorem m_654 : (.laysFinal R_Par "ThresholdBench$Participant" "key" "LThresholdBench$Point;" : Cond) ∈ AW := List.mem_append_left _ (List.mem_of_getElem? (i := 654) rfl)
set_option maxRecDepth 100000 in
theorem m_655 : (.laysFinal R_Par "ThresholdBench$Participant" "hidingPoint" "LThresholdBench$Point;" : Cond) ∈ AW := List.mem_append_left _ (List.mem_of_getElem? (i := 655) rfl)
set_option maxRecDepth 100000 in
theorem m_656 : (.laysFinal R_Par "ThresholdBench$Participant" "bindingPoint" "LThresholdBench$Point;" : Cond) ∈ AW := List.mem_append_left _ (List.mem_of_getElem? (i := 656) rfl)
set_option maxRecDepth 100000 in
theorem m_657 : (.laysFinal R_Dig "ThresholdBench$Digests" "sha" "LThresholdBench$Sha;" : Cond) ∈ AW := List.mem_append_left _ (List.mem_of_getElem? (i := 657) rfl)
set_option maxRecDepth 100000 in
theorem m_658 : (.laysFinal R_Dig "ThresholdBench$Digests" "input" "LThresholdBench$Row;" : Cond) ∈ AW := List.mem_append_left _ (List.mem_of_getElem? (i := 658) rfl)
set_option maxRecDepth 100000 in
theorem m_659 : (.laysFinal R_Dig "ThresholdBench$Digests" "list" "LThresholdBench$Row;" : Cond) ∈ AW := List.mem_append_left _ (List.mem_of_getElem? (i := 659) rfl)
set_option maxRecDepth 100000 in
theorem m_660 : (.laysFinal R_Dig "ThresholdBench$Digests" "start" "LThresholdBench$Row;" : Cond) ∈ AW := List.mem_append_left _ (List.mem_of_getElem? (i := 660) rfl)
set_option maxRecDepth 100000 in
theorem m_661 : (.laysFinal R_Dig "ThresholdBench$Digests" "expanded" "LThresholdBench$Row;" : Cond) ∈ AW := List.mem_append_left _ (List.mem_of_getElem? (i := 661) rfl)
set_option maxRecDepth 100000 in
theorem m_662 : (.laysFinal R_Sha "ThresholdBench$Sha" "state" "[I" : Cond) ∈ AW := List.mem_append_left _ (List.mem_of_getElem? (i := 662) rfl)
set_option maxRecDepth 100000 in
theorem m_663 : (.laysFinal R_Sha "ThresholdBench$Sha" "schedule" "[I" : Cond) ∈ AW := List.mem_append_left _ (List.mem_of_getElem? (i := 663) rfl)
set_option maxRecDepth 100000 in
theorem m_664 : (.lays R_Sha "ThresholdBench$Sha" "taken" "I" : Cond) ∈ AW := List.mem_append_left _ (List.mem_of_getElem? (i := 664) rfl)
set_option maxRecDepth 100000 in
theorem m_665 : (.laysFinal R_Mo "ThresholdBenchModel" "roundNumbers" "[I" : Cond) ∈ AW := List.mem_append_left _ (List.mem_of_getElem? (i := 665) rfl)
set_option maxRecDepth 100000 in
theorem m_666 : (.laysFinal R_Mo "ThresholdBenchModel" "modulusP" "[I" : Cond) ∈ AW := List.mem_append_left _ (List.mem_of_getElem? (i := 666) rfl)
set_option maxRecDepth 100000 in
theorem m_667 : (.laysFinal R_Mo "ThresholdBenchModel" "modulusQ" "[I" : Cond) ∈ AW := List.mem_append_left _ (List.mem_of_getElem? (i := 667) rfl)
set_option maxRecDepth 100000 in
theorem m_668 : (.laysFinal R_Mo "ThresholdBenchModel" "baseX" "[I" : Cond) ∈ AW := List.mem_append_left _ (List.mem_of_getElem? (i := 668) rfl)
set_option maxRecDepth 100000 in
theorem m_669 : (.laysFinal R_Mo "ThresholdBenchModel" "baseY" "[I" : Cond) ∈ AW := List.mem_append_left _ (List.mem_of_getElem? (i := 669) rfl)
set_option maxRecDepth 100000 in
theorem m_670 : (.laysFinal R_Mo "ThresholdBenchModel" "context" "[I" : Cond) ∈ AW := List.mem_append_left _ (List.mem_of_getElem? (i := 670) rfl)
set_option maxRecDepth 100000 in
theorem m_671 : (.laysFinal R_Mo "ThresholdBenchModel" "tags" "[I" : Cond) ∈ AW := List.mem_append_left _ (List.mem_of_getElem? (i := 671) rfl)
set_option maxRecDepth 100000 in
theorem m_672 : (.laysFinal R_Mo "ThresholdBenchModel" "tagAt" "[I" : Cond) ∈ AW := List.mem_append_left _ (List.mem_of_getElem? (i := 672) rfl)
set_option maxRecDepth 100000 in
theorem m_673 : (.lays R_Mo "ThresholdBenchModel" "thrown" "I" : Cond) ∈ AW := List.mem_append_left _ (List.mem_of_getElem? (i := 673) rfl)
set_option maxRecDepth 100000 in
theorem m_674 : (.laysFinal R_Mo "ThresholdBenchModel" "v" "[J" : Cond) ∈ AW := List.mem_append_left _ (List.mem_of_getElem? (i := 674) rfl)
set_option maxRecDepth 100000 in
theorem m_675 : (.laysFinal R_Mo "ThresholdBenchModel" "product" "[J" : Cond) ∈ AW := List.mem_append_left _ (List.mem_of_getElem? (i := 675) rfl)
set_option maxRecDepth 100000 in
theorem m_676 : (.laysFinal R_Mo "ThresholdBenchModel" "folds" "[J" : Cond) ∈ AW := List.mem_append_left _ (List.mem_of_getElem? (i := 676) rfl)
set_option maxRecDepth 100000 in
theorem m_677 : (.laysFinal R_Mo "ThresholdBenchModel" "zero" "[Z" : Cond) ∈ AW := List.mem_append_left _ (List.mem_of_getElem? (i := 677) rfl)
set_option maxRecDepth 100000 in
theorem m_678 : (.lays R_Mo "ThresholdBenchModel" "powers" "Z" : Cond) ∈ AW := List.mem_append_left _ (List.mem_of_getElem? (i := 678) rfl)
set_option maxRecDepth 100000 in
theorem m_679 : (.lays R_Mo "ThresholdBenchModel" "threshold" "I" : Cond) ∈ AW := List.mem_append_left _ (List.mem_of_getElem? (i := 679) rfl)
set_option maxRecDepth 100000 in
theorem m_680 : (.lays R_Mo "ThresholdBenchModel" "many" "I" : Cond) ∈ AW := List.mem_append_left _ (List.mem_of_getElem? (i := 680) rfl)
set_option maxRecDepth 100000 in
theorem m_681 : (.lays R_Mo "ThresholdBenchModel" "committed" "I" : Cond) ∈ AW := List.mem_append_left _ (List.mem_of_getElem? (i := 681) rfl)
set_option maxRecDepth 100000 in
theorem m_682 : (.lays R_Mo "ThresholdBenchModel" "set" "I" : Cond) ∈ AW := List.mem_append_left _ (List.mem_of_getElem? (i := 682) rfl)
set_option maxRecDepth 100000 in
theorem m_683 : (.lays R_Mo "ThresholdBenchModel" "given" "I" : Cond) ∈ AW := List.mem_append_left _ (List.mem_of_getElem? (i := 683) rfl)
set_option maxRecDepth 100000 in
theorem m_684 : (.laysFinal R_Mo "ThresholdBenchModel" "isBelow" "[Z" : Cond) ∈ AW := List.mem_append_left _ (List.mem_of_getElem? (i := 684) rfl)
set_option maxRecDepth 100000 in
theorem m_685 : (.laysFinal R_Mo "ThresholdBenchModel" "tape" "[B" : Cond) ∈ AW := List.mem_append_left _ (List.mem_of_getElem? (i := 685) rfl)
set_option maxRecDepth 100000 in
theorem m_686 : (.laysFinal R_Mo "ThresholdBenchModel" "message" "[B" : Cond) ∈ AW := List.mem_append_left _ (List.mem_of_getElem? (i := 686) rfl)
set_option maxRecDepth 100000 in
theorem m_687 : (.laysFinal R_Mo "ThresholdBenchModel" "out" "[B" : Cond) ∈ AW := List.mem_append_left _ (List.mem_of_getElem? (i := 687) rfl)
set_option maxRecDepth 100000 in
theorem m_688 : (.laysFinal R_Mo "ThresholdBenchModel" "list" "[B" : Cond) ∈ AW := List.mem_append_left _ (List.mem_of_getElem? (i := 688) rfl)
set_option maxRecDepth 100000 in
theorem m_689 : (.laysFinal R_Mo "ThresholdBenchModel" "block" "[B" : Cond) ∈ AW := List.mem_append_left _ (List.mem_of_getElem? (i := 689) rfl)
set_option maxRecDepth 100000 in
theorem m_690 : (.laysFinal R_Mo "ThresholdBenchModel" "sha" "[B" : Cond) ∈ AW := List.mem_append_left _ (List.mem_of_getElem? (i := 690) rfl)
set_option maxRecDepth 100000 in
theorem m_691 : (.laysFinal R_Mo "ThresholdBenchModel" "first" "[B" : Cond) ∈ AW := List.mem_append_left _ (List.mem_of_getElem? (i := 691) rfl)
set_option maxRecDepth 100000 in
theorem m_692 : (.laysFinal R_Mo "ThresholdBenchModel" "asked" "[B" : Cond) ∈ AW := List.mem_append_left _ (List.mem_of_getElem? (i := 692) rfl)
set_option maxRecDepth 100000 in
theorem m_693 : (.laysFinal R_Mo "ThresholdBenchModel" "state" "[I" : Cond) ∈ AW := List.mem_append_left _ (List.mem_of_getElem? (i := 693) rfl)
set_option maxRecDepth 100000 in
theorem m_694 : (.laysFinal R_Mo "ThresholdBenchModel" "rows" "[I" : Cond) ∈ AW := List.mem_append_left _ (List.mem_of_getElem? (i := 694) rfl)
set_option maxRecDepth 100000 in
theorem m_695 : (.lays R_Mo "ThresholdBenchModel" "taped" "I" : Cond) ∈ AW := List.mem_append_left _ (List.mem_of_getElem? (i := 695) rfl)
set_option maxRecDepth 100000 in
theorem m_696 : (.lays R_Mo "ThresholdBenchModel" "messageSize" "I" : Cond) ∈ AW := List.mem_append_left _ (List.mem_of_getElem? (i := 696) rfl)
set_option maxRecDepth 100000 in
theorem m_697 : (.lays R_Mo "ThresholdBenchModel" "outSize" "I" : Cond) ∈ AW := List.mem_append_left _ (List.mem_of_getElem? (i := 697) rfl)
set_option maxRecDepth 100000 in
theorem m_698 : (.lays R_Mo "ThresholdBenchModel" "listSize" "I" : Cond) ∈ AW := List.mem_append_left _ (List.mem_of_getElem? (i := 698) rfl)
theorem kg_all : ∀ w ∈ AW, (w.onTables && w.keeps) = true ∨ ∃ ty, w = .arrayClass ty := fun w h => good_of_word (List.all_eq_true.mp (by decide +kernel : AW.all goodWord = true) w h)
theorem n_TB : ∀ a, a < 19 → ∀ b, b < 19 → a ≠ b → (F_TB a).2.1 ≠ (F_TB b).2.1 := by decide +kernel
theorem t_TB_ok : ∀ k, k < 19 → parseFieldDescriptor (F_TB k).2.2.1 = some (t_TB k) := by decide +kernel
theorem i_TB : ∀ w ∈ u_ws R_TB F_TB 19, w ∈ AW := by decide +kernel
theorem f_TB : ∀ j, j < 19 → defaultValue (t_TB j) = vp_V [.null, .null, .null, .null, .int (nI 0), .int (nI 0), .int (nI 0), .null, .null, .null, .null, .null, .null, .null, .null, .null, .null, .null, .null] j := fun j hj => by rcases (show j = 0 ∨ j = 1 ∨ j = 2 ∨ j = 3 ∨ j = 4 ∨ j = 5 ∨ j = 6 ∨ j = 7 ∨ j = 8 ∨ j = 9 ∨ j = 10 ∨ j = 11 ∨ j = 12 ∨ j = 13 ∨ j = 14 ∨ j = 15 ∨ j = 16 ∨ j = 17 ∨ j = 18 by omega) with rfl | rfl | rfl | rfl | rfl | rfl | rfl | rfl | rfl | rfl | rfl | rfl | rfl | rfl | rfl | rfl | rfl | rfl | rfl <;> rfl
theorem n_Row : ∀ a, a < 2 → ∀ b, b < 2 → a ≠ b → (F_Row a).2.1 ≠ (F_Row b).2.1 := by decide +kernel
theorem t_Row_ok : ∀ k, k < 2 → parseFieldDescriptor (F_Row k).2.2.1 = some (t_Row k) := by decide +kernel
theorem i_Row : ∀ w ∈ u_ws R_Row F_Row 2, w ∈ AW := by decide +kernel
theorem f_Row : ∀ j, j < 2 → defaultValue (t_Row j) = vp_V [.null, .int (nI 0)] j := fun j hj => by rcases (show j = 0 ∨ j = 1 by omega) with rfl | rfl <;> rfl
theorem n_Sig : ∀ a, a < 7 → ∀ b, b < 7 → a ≠ b → (F_Sig a).2.1 ≠ (F_Sig b).2.1 := by decide +kernel
theorem t_Sig_ok : ∀ k, k < 7 → parseFieldDescriptor (F_Sig k).2.2.1 = some (t_Sig k) := by decide +kernel
theorem i_Sig : ∀ w ∈ u_ws R_Sig F_Sig 7, w ∈ AW := by decide +kernel
theorem f_Sig : ∀ j, j < 7 → defaultValue (t_Sig j) = vp_V [.int (nI 0), .int (nI 0), .null, .null, .null, .null, .null] j := fun j hj => by rcases (show j = 0 ∨ j = 1 ∨ j = 2 ∨ j = 3 ∨ j = 4 ∨ j = 5 ∨ j = 6 by omega) with rfl | rfl | rfl | rfl | rfl | rfl | rfl <;> rfl
theorem n_Sca : ∀ a, a < 2 → ∀ b, b < 2 → a ≠ b → (F_Sca a).2.1 ≠ (F_Sca b).2.1 := by decide +kernel
theorem t_Sca_ok : ∀ k, k < 2 → parseFieldDescriptor (F_Sca k).2.2.1 = some (t_Sca k) := by decide +kernel
theorem i_Sca : ∀ w ∈ u_ws R_Sca F_Sca 2, w ∈ AW := by decide +kernel
theorem f_Sca : ∀ j, j < 2 → defaultValue (t_Sca j) = vp_V [.null, .null] j := fun j hj => by rcases (show j = 0 ∨ j = 1 by omega) with rfl | rfl <;> rfl
theorem n_Fie : ∀ a, a < 8 → ∀ b, b < 8 → a ≠ b → (F_Fie a).2.1 ≠ (F_Fie b).2.1 := by decide +kernel
theorem t_Fie_ok : ∀ k, k < 8 → parseFieldDescriptor (F_Fie k).2.2.1 = some (t_Fie k) := by decide +kernel
theorem i_Fie : ∀ w ∈ u_ws R_Fie F_Fie 8, w ∈ AW := by decide +kernel
theorem f_Fie : ∀ j, j < 8 → defaultValue (t_Fie j) = vp_V [.null, .null, .null, .null, .null, .null, .null, .null] j := fun j hj => by rcases (show j = 0 ∨ j = 1 ∨ j = 2 ∨ j = 3 ∨ j = 4 ∨ j = 5 ∨ j = 6 ∨ j = 7 by omega) with rfl | rfl | rfl | rfl | rfl | rfl | rfl | rfl <;> rfl
theorem n_Cur : ∀ a, a < 10 → ∀ b, b < 10 → a ≠ b → (F_Cur a).2.1 ≠ (F_Cur b).2.1 := by decide +kernel
theorem t_Cur_ok : ∀ k, k < 10 → parseFieldDescriptor (F_Cur k).2.2.1 = some (t_Cur k) := by decide +kernel
theorem i_Cur : ∀ w ∈ u_ws R_Cur F_Cur 10, w ∈ AW := by decide +kernel
theorem f_Cur : ∀ j, j < 10 → defaultValue (t_Cur j) = vp_V [.null, .null, .null, .null, .null, .null, .null, .null, .null, .int (nI 0)] j := fun j hj => by rcases (show j = 0 ∨ j = 1 ∨ j = 2 ∨ j = 3 ∨ j = 4 ∨ j = 5 ∨ j = 6 ∨ j = 7 ∨ j = 8 ∨ j = 9 by omega) with rfl | rfl | rfl | rfl | rfl | rfl | rfl | rfl | rfl | rfl <;> rfl
theorem n_Poi : ∀ a, a < 4 → ∀ b, b < 4 → a ≠ b → (F_Poi a).2.1 ≠ (F_Poi b).2.1 := by decide +kernel
theorem t_Poi_ok : ∀ k, k < 4 → parseFieldDescriptor (F_Poi k).2.2.1 = some (t_Poi k) := by decide +kernel
theorem i_Poi : ∀ w ∈ u_ws R_Poi F_Poi 4, w ∈ AW := by decide +kernel
theorem f_Poi : ∀ j, j < 4 → defaultValue (t_Poi j) = vp_V [.null, .null, .null, .int (nI 0)] j := fun j hj => by rcases (show j = 0 ∨ j = 1 ∨ j = 2 ∨ j = 3 by omega) with rfl | rfl | rfl | rfl <;> rfl
theorem n_Ter : ∀ a, a < 2 → ∀ b, b < 2 → a ≠ b → (F_Ter a).2.1 ≠ (F_Ter b).2.1 := by decide +kernel
theorem t_Ter_ok : ∀ k, k < 2 → parseFieldDescriptor (F_Ter k).2.2.1 = some (t_Ter k) := by decide +kernel
theorem i_Ter : ∀ w ∈ u_ws R_Ter F_Ter 2, w ∈ AW := by decide +kernel
theorem f_Ter : ∀ j, j < 2 → defaultValue (t_Ter j) = vp_V [.null, .null] j := fun j hj => by rcases (show j = 0 ∨ j = 1 by omega) with rfl | rfl <;> rfl
theorem n_Par : ∀ a, a < 7 → ∀ b, b < 7 → a ≠ b → (F_Par a).2.1 ≠ (F_Par b).2.1 := by decide +kernel
theorem t_Par_ok : ∀ k, k < 7 → parseFieldDescriptor (F_Par k).2.2.1 = some (t_Par k) := by decide +kernel
theorem i_Par : ∀ w ∈ u_ws R_Par F_Par 7, w ∈ AW := by decide +kernel
theorem f_Par : ∀ j, j < 7 → defaultValue (t_Par j) = vp_V [.null, .null, .null, .null, .null, .null, .null] j := fun j hj => by rcases (show j = 0 ∨ j = 1 ∨ j = 2 ∨ j = 3 ∨ j = 4 ∨ j = 5 ∨ j = 6 by omega) with rfl | rfl | rfl | rfl | rfl | rfl | rfl <;> rfl
theorem n_Dig : ∀ a, a < 5 → ∀ b, b < 5 → a ≠ b → (F_Dig a).2.1 ≠ (F_Dig b).2.1 := by decide +kernel
theorem t_Dig_ok : ∀ k, k < 5 → parseFieldDescriptor (F_Dig k).2.2.1 = some (t_Dig k) := by decide +kernel
theorem i_Dig : ∀ w ∈ u_ws R_Dig F_Dig 5, w ∈ AW := by decide +kernel
theorem f_Dig : ∀ j, j < 5 → defaultValue (t_Dig j) = vp_V [.null, .null, .null, .null, .null] j := fun j hj => by rcases (show j = 0 ∨ j = 1 ∨ j = 2 ∨ j = 3 ∨ j = 4 by omega) with rfl | rfl | rfl | rfl | rfl <;> rfl
theorem n_Sha : ∀ a, a < 3 → ∀ b, b < 3 → a ≠ b → (F_Sha a).2.1 ≠ (F_Sha b).2.1 := by decide +kernel
theorem t_Sha_ok : ∀ k, k < 3 → parseFieldDescriptor (F_Sha k).2.2.1 = some (t_Sha k) := by decide +kernel
theorem i_Sha : ∀ w ∈ u_ws R_Sha F_Sha 3, w ∈ AW := by decide +kernel
theorem f_Sha : ∀ j, j < 3 → defaultValue (t_Sha j) = vp_V [.null, .null, .int (nI 0)] j := fun j hj => by rcases (show j = 0 ∨ j = 1 ∨ j = 2 by omega) with rfl | rfl | rfl <;> rfl
theorem n_Mo : ∀ a, a < 34 → ∀ b, b < 34 → a ≠ b → (F_Mo a).2.1 ≠ (F_Mo b).2.1 := by decide +kernel
theorem t_Mo_ok : ∀ k, k < 34 → parseFieldDescriptor (F_Mo k).2.2.1 = some (t_Mo k) := by decide +kernel
theorem i_Mo : ∀ w ∈ u_ws R_Mo F_Mo 34, w ∈ AW := by decide +kernel
theorem f_Mo : ∀ j, j < 34 → defaultValue (t_Mo j) = vp_V [.null, .null, .null, .null, .null, .null, .null, .null, .int (nI 0), .null, .null, .null, .null, .int (nI 0), .int (nI 0), .int (nI 0), .int (nI 0), .int (nI 0), .int (nI 0), .null, .null, .null, .null, .null, .null, .null, .null, .null, .null, .null, .int (nI 0), .int (nI 0), .int (nI 0), .int (nI 0)] j := fun j hj => by rcases (show j = 0 ∨ j = 1 ∨ j = 2 ∨ j = 3 ∨ j = 4 ∨ j = 5 ∨ j = 6 ∨ j = 7 ∨ j = 8 ∨ j = 9 ∨ j = 10 ∨ j = 11 ∨ j = 12 ∨ j = 13 ∨ j = 14 ∨ j = 15 ∨ j = 16 ∨ j = 17 ∨ j = 18 ∨ j = 19 ∨ j = 20 ∨ j = 21 ∨ j = 22 ∨ j = 23 ∨ j = 24 ∨ j = 25 ∨ j = 26 ∨ j = 27 ∨ j = 28 ∨ j = 29 ∨ j = 30 ∨ j = 31 ∨ j = 32 ∨ j = 33 by omega) with rfl | rfl | rfl | rfl | rfl | rfl | rfl | rfl | rfl | rfl | rfl | rfl | rfl | rfl | rfl | rfl | rfl | rfl | rfl | rfl | rfl | rfl | rfl | rfl | rfl | rfl | rfl | rfl | rfl | rfl | rfl | rfl | rfl | rfl <;> rfl
