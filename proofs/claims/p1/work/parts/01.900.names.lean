def RX0 : String := "Bothfaces$Book"
def TX0 : u_T := fun k => match k with
  | 0 => ("Bothfaces$Book", "days", "[I", true)
  | 1 => ("Bothfaces$Book", "prices", "[I", true)
  | 2 => ("Bothfaces$Book", "dues", "[I", true)
  | 3 => ("Bothfaces$Book", "mostOf", "[I", true)
  | _ => ("Bothfaces$Book", "count", "I", false)
def yX0_init : MethodName := ⟨RX0, "<init>", "()V"⟩
def yX0_enter : MethodName := ⟨RX0, "enter", "(III)V"⟩
def yX0_worth : MethodName := ⟨RX0, "worth", "(II)I"⟩
def yX0_toldDay : MethodName := ⟨RX0, "toldDay", "(I)I"⟩
def yX0_mostWorth : MethodName := ⟨RX0, "mostWorth", "()I"⟩
def RX1 : String := "Bothfaces$Card"
def TX1 : u_T := fun k => match k with
  | 0 => ("Bothfaces$Card", "threads", "[I", true)
  | 1 => ("Bothfaces$Card", "stands", "[I", true)
  | 2 => ("Bothfaces$Card", "twists", "[I", true)
  | 3 => ("Bothfaces$Card", "isS", "Z", false)
  | 4 => ("Bothfaces$Card", "pack", "I", false)
  | 5 => ("Bothfaces$Card", "stand", "I", false)
  | _ => ("Bothfaces$Card", "twist", "I", false)
def yX1_init : MethodName := ⟨RX1, "<init>", "()V"⟩
def yX1_threadWith : MethodName := ⟨RX1, "threadWith", "(IIIIZ)V"⟩
def yX1_rotate : MethodName := ⟨RX1, "rotate", "(Z)V"⟩
def yX1_keepAs : MethodName := ⟨RX1, "keepAs", "(I)V"⟩
def yX1_goBackTo : MethodName := ⟨RX1, "goBackTo", "(I)V"⟩
def yX1_shows : MethodName := ⟨RX1, "shows", "(IZ)I"⟩
def yX1_shownIn : MethodName := ⟨RX1, "shownIn", "(IZ)I"⟩
def yX1_stoodStill : MethodName := ⟨RX1, "stoodStill", "(I)Z"⟩
def yX1_lengthOf : MethodName := ⟨RX1, "lengthOf", "(II)I"⟩
def yX1_isOfKindOf : MethodName := ⟨RX1, "isOfKindOf", "(LBothfaces$Card;)Z"⟩
def RX2 : String := "Bothfaces$Mender"
def TX2 : u_T := fun k => match k with
  | 0 => ("Bothfaces$Mender", "counts", "[J", false)
  | _ => ("Bothfaces$Mender", "next", "[J", false)
def yX2_init : MethodName := ⟨RX2, "<init>", "()V"⟩
def yX2_countWays : MethodName := ⟨RX2, "countWays", "(LBothfaces$Card;IIZ)J"⟩
def RX3 : String := "Bothfaces$Planner"
def TX3 : u_T := fun k => match k with
  | 0 => ("Bothfaces$Planner", "reached", "[J", false)
  | _ => ("Bothfaces$Planner", "next", "[J", false)
def yX3_init : MethodName := ⟨RX3, "<init>", "()V"⟩
def yX3_begin : MethodName := ⟨RX3, "begin", "(I)V"⟩
def yX3_goOn : MethodName := ⟨RX3, "goOn", "(LBothfaces$Card;III)V"⟩
def yX3_best : MethodName := ⟨RX3, "best", "()J"⟩
def RX4 : String := "Bothfaces$Side"
def TX4 : u_T := fun k => match k with
  | 0 => ("Bothfaces$Side", "isBack", "Z", true)
  | 1 => ("Bothfaces$Side", "letters", "[I", true)
  | 2 => ("Bothfaces$Side", "letterCount", "I", false)
  | 3 => ("Bothfaces$Side", "firstCard", "I", false)
  | 4 => ("Bothfaces$Side", "firstPick", "I", false)
  | 5 => ("Bothfaces$Side", "ink", "I", false)
  | _ => ("Bothfaces$Side", "ground", "I", false)
def yX4_init : MethodName := ⟨RX4, "<init>", "(Z)V"⟩
def yX4_lay : MethodName := ⟨RX4, "lay", "([IIII)V"⟩
def yX4_hasInk : MethodName := ⟨RX4, "hasInk", "(II[[I)Z"⟩
def RX5 : String := "Bothfaces"
def TX5 : u_T := fun k => match k with
  | 0 => ("Bothfaces", "cards", "[LBothfaces$Card;", true)
  | 1 => ("Bothfaces", "cardCount", "I", false)
  | 2 => ("Bothfaces", "pickCount", "I", false)
  | 3 => ("Bothfaces", "drawn", "[[I", true)
  | 4 => ("Bothfaces", "typed", "[I", true)
  | 5 => ("Bothfaces", "typedCount", "I", false)
  | 6 => ("Bothfaces", "front", "LBothfaces$Side;", true)
  | 7 => ("Bothfaces", "back", "LBothfaces$Side;", true)
  | 8 => ("Bothfaces", "planner", "LBothfaces$Planner;", true)
  | 9 => ("Bothfaces", "mender", "LBothfaces$Mender;", true)
  | 10 => ("Bothfaces", "rates", "[I", true)
  | 11 => ("Bothfaces", "weaverCount", "I", false)
  | _ => ("Bothfaces", "book", "LBothfaces$Book;", true)
def yX5_standAfter : MethodName := ⟨RX5, "standAfter", "(II)I"⟩
def yX5_spanOf : MethodName := ⟨RX5, "spanOf", "(I)I"⟩
def yX5_bitOfTurn : MethodName := ⟨RX5, "bitOfTurn", "(I)J"⟩
def yX5_holeOf : MethodName := ⟨RX5, "holeOf", "(IZ)I"⟩
def RX6 : String := "BothfacesModel$Card"
def TX6 : u_T := fun k => match k with
  | 0 => ("BothfacesModel$Card", "colours", "[I", true)
  | 1 => ("BothfacesModel$Card", "isS", "Z", true)
  | 2 => ("BothfacesModel$Card", "pack", "I", false)
  | 3 => ("BothfacesModel$Card", "at", "I", false)
  | _ => ("BothfacesModel$Card", "twist", "I", false)
def RX7 : String := "BothfacesModel$Face"
def TX7 : u_T := fun k => match k with
  | 0 => ("BothfacesModel$Face", "text", "Ljava/lang/String;", false)
  | 1 => ("BothfacesModel$Face", "card", "I", false)
  | 2 => ("BothfacesModel$Face", "pick", "I", false)
  | 3 => ("BothfacesModel$Face", "ink", "I", false)
  | _ => ("BothfacesModel$Face", "ground", "I", false)
def yX7_init : MethodName := ⟨RX7, "<init>", "()V"⟩
def RX8 : String := "BothfacesModel"
def TX8 : u_T := fun k => match k with
  | 0 => ("BothfacesModel", "cards", "Ljava/util/ArrayList;", true)
  | 1 => ("BothfacesModel", "picks", "Ljava/util/ArrayList;", true)
  | 2 => ("BothfacesModel", "letters", "[[I", true)
  | 3 => ("BothfacesModel", "front", "LBothfacesModel$Face;", true)
  | 4 => ("BothfacesModel", "back", "LBothfacesModel$Face;", true)
  | 5 => ("BothfacesModel", "weavers", "Ljava/util/ArrayList;", true)
  | 6 => ("BothfacesModel", "orders", "Ljava/util/ArrayList;", true)
  | 7 => ("BothfacesModel", "typed", "Ljava/lang/String;", false)
  | _ => ("BothfacesModel", "thrown", "I", false)
def RJx00060 : String := "java/lang/ArrayIndexOutOfBoundsException"
def TJx00060 : u_T := fun k => match k with
  | 0 => ("java/lang/Throwable", "backtrace", "Ljava/lang/Object;", false)
  | 1 => ("java/lang/Throwable", "detailMessage", "Ljava/lang/String;", false)
  | 2 => ("java/lang/Throwable", "cause", "Ljava/lang/Throwable;", false)
  | 3 => ("java/lang/Throwable", "stackTrace", "[Ljava/lang/StackTraceElement;", false)
  | 4 => ("java/lang/Throwable", "depth", "I", false)
  | _ => ("java/lang/Throwable", "suppressedExceptions", "Ljava/util/List;", false)
def RJ6 : String := "java/lang/Integer"
def TJ6 : u_T := fun k => match k with
  | _ => ("java/lang/Integer", "value", "I", true)
def RJ0 : String := "java/lang/String"
def TJ0 : u_T := fun k => match k with
  | 0 => ("java/lang/String", "value", "[B", true)
  | 1 => ("java/lang/String", "coder", "B", true)
  | 2 => ("java/lang/String", "hash", "I", false)
  | _ => ("java/lang/String", "hashIsZero", "Z", false)
def RJ4 : String := "java/lang/StringBuilder"
def TJ4 : u_T := fun k => match k with
  | 0 => ("java/lang/AbstractStringBuilder", "value", "[B", false)
  | 1 => ("java/lang/AbstractStringBuilder", "coder", "B", false)
  | 2 => ("java/lang/AbstractStringBuilder", "maybeLatin1", "Z", false)
  | _ => ("java/lang/AbstractStringBuilder", "count", "I", false)
def RJx35411 : String := "java/util/ArrayList$Itr"
def TJx35411 : u_T := fun k => match k with
  | 0 => ("java/util/ArrayList$Itr", "cursor", "I", false)
  | 1 => ("java/util/ArrayList$Itr", "lastRet", "I", false)
  | 2 => ("java/util/ArrayList$Itr", "expectedModCount", "I", false)
  | _ => ("java/util/ArrayList$Itr", "this$0", "Ljava/util/ArrayList;", true)
def yJx35411_hasNext_aae02 : MethodName := ⟨RJx35411, "hasNext", "()Z"⟩
def RJx4a65c : String := "java/util/ArrayList"
def TJx4a65c : u_T := fun k => match k with
  | 0 => ("java/util/AbstractList", "modCount", "I", false)
  | 1 => ("java/util/ArrayList", "elementData", "[Ljava/lang/Object;", false)
  | _ => ("java/util/ArrayList", "size", "I", false)
abbrev vwCl : List vw_C := [(RJ0, TJ0, 4), (RJ4, TJ4, 4), (RJ6, TJ6, 1), (RJx00060, TJx00060, 6), (RJx35411, TJx35411, 4), (RJx4a65c, TJx4a65c, 3), (RX0, TX0, 5), (RX1, TX1, 7), (RX2, TX2, 2), (RX3, TX3, 2), (RX4, TX4, 7), (RX5, TX5, 13), (RX6, TX6, 5), (RX7, TX7, 5), (RX8, TX8, 9)]
