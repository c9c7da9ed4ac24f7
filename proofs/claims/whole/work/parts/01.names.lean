theorem goodIn_r {big : List Cond} (ws : List Cond) (ps : List Nat) (hp : ws = ps.filterMap (fun i => big[i]?)) (h : ws.all goodWord = true) : GoodIn big ws := by
  intro w hw
  have h1 := List.all_eq_true.mp h w hw
  rw [hp] at hw
  obtain ⟨i, -, hi⟩ := List.mem_filterMap.mp hw
  have hm : w ∈ big := by first | exact List.mem_of_getElem? hi | exact List.getElem?_mem hi
  exact ⟨hm, good_of_word h1⟩
theorem goodIn_app {big a b : List Cond} (ha : GoodIn big a) (hb : GoodIn big b) : GoodIn big (a ++ b) := fun w h => (List.mem_append.mp h).elim (ha w) (hb w)
theorem goodIn_sub {big ws : List Cond} (hm : ∀ w ∈ ws, w ∈ big) (h : ws.all goodWord = true) : GoodIn big ws := fun w hw => ⟨hm w hw, good_of_word (List.all_eq_true.mp h w hw)⟩
def RX11 : String := "CuratorAquarumModel$Node"
def TX11 : u_T := fun k => match k with
  | 0 => ("CuratorAquarumModel$Node", "kind", "C", true)
  | 1 => ("CuratorAquarumModel$Node", "height", "I", true)
  | 2 => ("CuratorAquarumModel$Node", "flow", "I", true)
  | 3 => ("CuratorAquarumModel$Node", "swing", "I", true)
  | 4 => ("CuratorAquarumModel$Node", "own", "I", true)
  | 5 => ("CuratorAquarumModel$Node", "order", "I", false)
  | 6 => ("CuratorAquarumModel$Node", "water", "I", false)
  | 7 => ("CuratorAquarumModel$Node", "hardness", "I", false)
  | 8 => ("CuratorAquarumModel$Node", "cloud", "I", false)
  | 9 => ("CuratorAquarumModel$Node", "overflow", "I", false)
  | 10 => ("CuratorAquarumModel$Node", "waste", "I", false)
  | _ => ("CuratorAquarumModel$Node", "levels", "[I", true)
abbrev wsX110 : List Cond := u_ws RX11 TX11 12
def RX12 : String := "CuratorAquarumModel$Nozzle"
def TX12 : u_T := fun k => match k with
  | 0 => ("CuratorAquarumModel$Nozzle", "node", "I", true)
  | 1 => ("CuratorAquarumModel$Nozzle", "chamber", "I", true)
  | 2 => ("CuratorAquarumModel$Nozzle", "bore", "I", true)
  | 3 => ("CuratorAquarumModel$Nozzle", "height", "I", true)
  | 4 => ("CuratorAquarumModel$Nozzle", "real", "I", false)
  | 5 => ("CuratorAquarumModel$Nozzle", "isShut", "Z", false)
  | 6 => ("CuratorAquarumModel$Nozzle", "person", "I", false)
  | _ => ("CuratorAquarumModel$Nozzle", "house", "I", false)
abbrev wsX120 : List Cond := u_ws RX12 TX12 8
abbrev cX12_gives : ByteArray := prog_15_method_2_code
def yX12_gives : MethodName := ⟨RX12, "gives", "(II)I"⟩
def RX14 : String := "CuratorAquarumModel"
def TX14 : u_T := fun k => match k with
  | 0 => ("CuratorAquarumModel", "nodes", "Ljava/util/ArrayList;", true)
  | 1 => ("CuratorAquarumModel", "stretches", "Ljava/util/ArrayList;", true)
  | 2 => ("CuratorAquarumModel", "nozzles", "Ljava/util/ArrayList;", true)
  | 3 => ("CuratorAquarumModel", "list", "Ljava/util/ArrayList;", true)
  | 4 => ("CuratorAquarumModel", "areDead", "[Z", true)
  | 5 => ("CuratorAquarumModel", "accounts", "[I", true)
  | 6 => ("CuratorAquarumModel", "purses", "[I", true)
  | 7 => ("CuratorAquarumModel", "months", "I", false)
  | 8 => ("CuratorAquarumModel", "rain", "I", false)
  | 9 => ("CuratorAquarumModel", "care", "I", false)
  | 10 => ("CuratorAquarumModel", "z", "I", false)
  | 11 => ("CuratorAquarumModel", "tellers", "I", false)
  | 12 => ("CuratorAquarumModel", "fisc", "I", false)
  | _ => ("CuratorAquarumModel", "thrown", "I", false)
abbrev wsX140 : List Cond := u_ws RX14 TX14 14
abbrev cX14_given : ByteArray := prog_13_method_23_code
def yX14_given : MethodName := ⟨RX14, "given", "(III)I"⟩
abbrev cX14_fills : ByteArray := prog_13_method_24_code
def yX14_fills : MethodName := ⟨RX14, "fills", "(I)V"⟩
abbrev cX14_given_ : ByteArray := prog_13_method_43_code
def RJ11 : String := "java/lang/Character"
abbrev cJ11_isValidCodePoint_9a6ad : ByteArray := prog_21_method_11_code
def yJ11_isValidCodePoint_9a6ad : MethodName := ⟨RJ11, "isValidCodePoint", "(I)Z"⟩
abbrev cJ11_highSurrogate_5068e : ByteArray := prog_21_method_28_code
def yJ11_highSurrogate_5068e : MethodName := ⟨RJ11, "highSurrogate", "(I)C"⟩
abbrev cJ11_lowSurrogate_5068e : ByteArray := prog_21_method_29_code
def yJ11_lowSurrogate_5068e : MethodName := ⟨RJ11, "lowSurrogate", "(I)C"⟩
def RJ0 : String := "java/lang/String"
def TJ0 : u_T := fun k => match k with
  | 0 => ("java/lang/String", "value", "[B", true)
  | 1 => ("java/lang/String", "coder", "B", true)
  | 2 => ("java/lang/String", "hash", "I", false)
  | _ => ("java/lang/String", "hashIsZero", "Z", false)
abbrev wsJ00 : List Cond := u_ws RJ0 TJ0 4
abbrev cJ0_length_8abf5 : ByteArray := prog_34_method_54_code
def yJ0_length_8abf5 : MethodName := ⟨RJ0, "length", "()I"⟩
abbrev cJ0_charAt_5068e : ByteArray := prog_34_method_56_code
def yJ0_charAt_5068e : MethodName := ⟨RJ0, "charAt", "(I)C"⟩
abbrev cJ0_indexOf_0f7a4 : ByteArray := prog_34_method_79_code
def yJ0_indexOf_0f7a4 : MethodName := ⟨RJ0, "indexOf", "(I)I"⟩
abbrev cJ0_indexOf_7cf53 : ByteArray := prog_34_method_80_code
def yJ0_indexOf_7cf53 : MethodName := ⟨RJ0, "indexOf", "(II)I"⟩
abbrev cJ0_coder_7d493 : ByteArray := prog_34_method_152_code
def yJ0_coder_7d493 : MethodName := ⟨RJ0, "coder", "()B"⟩
abbrev cJ0_isLatin1_aae02 : ByteArray := prog_34_method_154_code
def yJ0_isLatin1_aae02 : MethodName := ⟨RJ0, "isLatin1", "()Z"⟩
abbrev cJ0_checkIndex_df160 : ByteArray := prog_34_method_155_code
def yJ0_checkIndex_df160 : MethodName := ⟨RJ0, "checkIndex", "(II)V"⟩
abbrev cJ0_checkBoundsBeginEnd_23922 : ByteArray := prog_34_method_158_code
def yJ0_checkBoundsBeginEnd_23922 : MethodName := ⟨RJ0, "checkBoundsBeginEnd", "(III)V"⟩
def RJ1 : String := "java/lang/StringLatin1"
abbrev cJ1_charAt_3b067 : ByteArray := prog_36_method_2_code
def yJ1_charAt_3b067 : MethodName := ⟨RJ1, "charAt", "([BI)C"⟩
abbrev cJ1_canEncode_9a6ad : ByteArray := prog_36_method_4_code
def yJ1_canEncode_9a6ad : MethodName := ⟨RJ1, "canEncode", "(I)Z"⟩
abbrev cJ1_indexOf_4cfef : ByteArray := prog_36_method_22_code
def yJ1_indexOf_4cfef : MethodName := ⟨RJ1, "indexOf", "([BIII)I"⟩
abbrev cJ1_indexOfChar_4cfef : ByteArray := prog_36_method_23_code
def yJ1_indexOfChar_4cfef : MethodName := ⟨RJ1, "indexOfChar", "([BIII)I"⟩
def RJ2 : String := "java/lang/StringUTF16"
abbrev cJ2_getChar_3b067 : ByteArray := prog_37_method_5_code
def yJ2_getChar_3b067 : MethodName := ⟨RJ2, "getChar", "([BI)C"⟩
abbrev cJ2_length_9d52b : ByteArray := prog_37_method_6_code
def yJ2_length_9d52b : MethodName := ⟨RJ2, "length", "([B)I"⟩
abbrev cJ2_indexOf_4cfef : ByteArray := prog_37_method_40_code
def yJ2_indexOf_4cfef : MethodName := ⟨RJ2, "indexOf", "([BIII)I"⟩
abbrev cJ2_indexOfChar_4cfef : ByteArray := prog_37_method_47_code
def yJ2_indexOfChar_4cfef : MethodName := ⟨RJ2, "indexOfChar", "([BIII)I"⟩
abbrev cJ2_indexOfCharUnsafe_4cfef : ByteArray := prog_37_method_48_code
def yJ2_indexOfCharUnsafe_4cfef : MethodName := ⟨RJ2, "indexOfCharUnsafe", "([BIII)I"⟩
abbrev cJ2_indexOfSupplementary_4cfef : ByteArray := prog_37_method_49_code
def yJ2_indexOfSupplementary_4cfef : MethodName := ⟨RJ2, "indexOfSupplementary", "([BIII)I"⟩
abbrev cJ2_charAt_3b067 : ByteArray := prog_37_method_83_code
def yJ2_charAt_3b067 : MethodName := ⟨RJ2, "charAt", "([BI)C"⟩
abbrev cJ2_checkIndex_2214a : ByteArray := prog_37_method_91_code
def yJ2_checkIndex_2214a : MethodName := ⟨RJ2, "checkIndex", "(I[B)V"⟩
abbrev cJ2_checkBoundsBeginEnd_d044e : ByteArray := prog_37_method_93_code
def yJ2_checkBoundsBeginEnd_d044e : MethodName := ⟨RJ2, "checkBoundsBeginEnd", "(II[B)V"⟩
def RJx35411 : String := "java/util/ArrayList$Itr"
def TJx35411 : u_T := fun k => match k with
  | 0 => ("java/util/ArrayList$Itr", "cursor", "I", false)
  | 1 => ("java/util/ArrayList$Itr", "lastRet", "I", false)
  | 2 => ("java/util/ArrayList$Itr", "expectedModCount", "I", false)
  | _ => ("java/util/ArrayList$Itr", "this$0", "Ljava/util/ArrayList;", true)
def tyJx35411 : Nat → FieldType := fun k => match k with
  | 0 => .int
  | 1 => .int
  | 2 => .int
  | _ => .object "java/util/ArrayList"
abbrev wsJx354110 : List Cond := u_ws RJx35411 TJx35411 4
theorem nmJx35411 : ∀ a, a < 4 → ∀ b, b < 4 → a ≠ b → (TJx35411 a).2.1 ≠ (TJx35411 b).2.1 := by decide +kernel
theorem tyJx35411_ok : ∀ k, k < 4 → parseFieldDescriptor (TJx35411 k).2.2.1 = some (tyJx35411 k) := by decide +kernel
abbrev cJx35411_init_45d68 : ByteArray := prog_46_method_1_code
def yJx35411_init_45d68 : MethodName := ⟨RJx35411, "<init>", "(Ljava/util/ArrayList;)V"⟩
abbrev cJx35411_hasNext_aae02 : ByteArray := prog_46_method_2_code
def yJx35411_hasNext_aae02 : MethodName := ⟨RJx35411, "hasNext", "()Z"⟩
abbrev cJx35411_next_0502b : ByteArray := prog_46_method_3_code
def yJx35411_next_0502b : MethodName := ⟨RJx35411, "next", "()Ljava/lang/Object;"⟩
abbrev cJx35411_checkForComodification_da8c8 : ByteArray := prog_46_method_6_code
def yJx35411_checkForComodification_da8c8 : MethodName := ⟨RJx35411, "checkForComodification", "()V"⟩
def RJx4a65c : String := "java/util/ArrayList"
def TJx4a65c : u_T := fun k => match k with
  | 0 => ("java/util/AbstractList", "modCount", "I", false)
  | 1 => ("java/util/ArrayList", "elementData", "[Ljava/lang/Object;", false)
  | _ => ("java/util/ArrayList", "size", "I", false)
abbrev wsJx4a65c0 : List Cond := u_ws RJx4a65c TJx4a65c 3
abbrev cJx4a65c_elementData_915e3 : ByteArray := prog_45_method_18_code
def yJx4a65c_elementData_915e3 : MethodName := ⟨RJx4a65c, "elementData", "(I)Ljava/lang/Object;"⟩
abbrev cJx4a65c_get_915e3 : ByteArray := prog_45_method_20_code
def yJx4a65c_get_915e3 : MethodName := ⟨RJx4a65c, "get", "(I)Ljava/lang/Object;"⟩
abbrev cJx4a65c_iterator_32c93 : ByteArray := prog_45_method_55_code
def yJx4a65c_iterator_32c93 : MethodName := ⟨RJx4a65c, "iterator", "()Ljava/util/Iterator;"⟩
def RJ15 : String := "java/util/Objects"
abbrev cJ15_checkIndex_7cf53 : ByteArray := prog_52_method_17_code
def yJ15_checkIndex_7cf53 : MethodName := ⟨RJ15, "checkIndex", "(II)I"⟩
def RJ3 : String := "jdk/internal/util/Preconditions"
abbrev cJ3_checkIndex_8e157 : ByteArray := prog_56_method_11_code
def yJ3_checkIndex_8e157 : MethodName := ⟨RJ3, "checkIndex", "(IILjava/util/function/BiFunction;)I"⟩
abbrev cJ3_checkFromToIndex_8c36e : ByteArray := prog_56_method_12_code
def yJ3_checkFromToIndex_8c36e : MethodName := ⟨RJ3, "checkFromToIndex", "(IIILjava/util/function/BiFunction;)I"⟩
def wsJx35411_init_45d68 : List Cond := .code yJx35411_init_45d68 cJx35411_init_45d68 2 none :: ([.fieldLink RJx35411 1 "java/util/ArrayList$Itr" "this$0" "Ljava/util/ArrayList;", .methodLink RJx35411 7 objectInit, .instanceMethod objectInit, .code objectInit ⟨#[0xb1]⟩ 1 none, .fieldLink RJx35411 13 "java/util/ArrayList$Itr" "lastRet" "I", .fieldLink RJx35411 17 "java/util/ArrayList" "modCount" "I", .sameField "java/util/ArrayList" "java/util/AbstractList" "modCount" "I", .fieldLink RJx35411 22 "java/util/ArrayList$Itr" "expectedModCount" "I"] ++ wsJx354110 ++ wsJx4a65c0)
def wsJx4a65c_iterator_32c93 : List Cond := .code yJx4a65c_iterator_32c93 cJx4a65c_iterator_32c93 1 (some (.object "java/util/Iterator")) :: ([.classLink RJx4a65c 267 RJx35411, .instantiable RJx35411 4, .initialized RJx35411, .methodLink RJx4a65c 269 yJx35411_init_45d68, .instanceMethod yJx35411_init_45d68, .code yJx35411_init_45d68 cJx35411_init_45d68 2 none, .fieldLink RJx35411 1 "java/util/ArrayList$Itr" "this$0" "Ljava/util/ArrayList;", .methodLink RJx35411 7 objectInit, .instanceMethod objectInit, .code objectInit ⟨#[0xb1]⟩ 1 none, .fieldLink RJx35411 13 "java/util/ArrayList$Itr" "lastRet" "I", .fieldLink RJx35411 17 "java/util/ArrayList" "modCount" "I", .sameField "java/util/ArrayList" "java/util/AbstractList" "modCount" "I", .fieldLink RJx35411 22 "java/util/ArrayList$Itr" "expectedModCount" "I"] ++ wsJx354110 ++ wsJx4a65c0)
def wsJx35411_hasNext_aae02 : List Cond := .code yJx35411_hasNext_aae02 cJx35411_hasNext_aae02 1 (some .boolean) :: ([.fieldLink RJx35411 25 "java/util/ArrayList$Itr" "cursor" "I", .fieldLink RJx35411 1 "java/util/ArrayList$Itr" "this$0" "Ljava/util/ArrayList;"] ++ wsJx354110 ++ wsJx4a65c0)
def wsX14_given_r1 : List Cond := [Cond.fieldLink RX14 19 "CuratorAquarumModel" "nozzles" "Ljava/util/ArrayList;", Cond.classLink RX14 166 "CuratorAquarumModel$Nozzle", Cond.methodLink RX14 140 yJx4a65c_iterator_32c93, Cond.instanceMethod yJx4a65c_iterator_32c93, Cond.selects RJx4a65c yJx4a65c_iterator_32c93 yJx4a65c_iterator_32c93, Cond.initialized RJx4a65c, Cond.code yJx4a65c_iterator_32c93 cJx4a65c_iterator_32c93 1 (some (.object "java/util/Iterator")), Cond.classLink RJx4a65c 267 RJx35411, Cond.instantiable RJx35411 4, Cond.initialized RJx35411, Cond.methodLink RJx4a65c 269 yJx35411_init_45d68, Cond.instanceMethod yJx35411_init_45d68, Cond.code yJx35411_init_45d68 cJx35411_init_45d68 2 none, Cond.fieldLink RJx35411 1 "java/util/ArrayList$Itr" "this$0" "Ljava/util/ArrayList;", Cond.methodLink RJx35411 7 objectInit, Cond.instanceMethod objectInit, Cond.code objectInit ⟨#[0xb1]⟩ 1 none, Cond.fieldLink RJx35411 13 "java/util/ArrayList$Itr" "lastRet" "I", Cond.fieldLink RJx35411 17 "java/util/ArrayList" "modCount" "I", Cond.sameField "java/util/ArrayList" "java/util/AbstractList" "modCount" "I", Cond.fieldLink RJx35411 22 "java/util/ArrayList$Itr" "expectedModCount" "I", Cond.methodLink RX14 144 ⟨"java/util/Iterator", "hasNext", "()Z"⟩, Cond.selects RJx35411 ⟨"java/util/Iterator", "hasNext", "()Z"⟩ yJx35411_hasNext_aae02, Cond.instanceMethod yJx35411_hasNext_aae02]
def wsX14_given_r2 : List Cond := [Cond.code yJx35411_hasNext_aae02 cJx35411_hasNext_aae02 1 (some .boolean), Cond.fieldLink RJx35411 25 "java/util/ArrayList$Itr" "cursor" "I", Cond.methodLink RX14 150 ⟨"java/util/Iterator", "next", "()Ljava/lang/Object;"⟩, Cond.selects RJx35411 ⟨"java/util/Iterator", "next", "()Ljava/lang/Object;"⟩ yJx35411_next_0502b, Cond.instanceMethod yJx35411_next_0502b, Cond.code yJx35411_next_0502b cJx35411_next_0502b 3 (some (.object "java/lang/Object")), Cond.fieldLink RJx35411 37 "java/util/ArrayList" "elementData" "[Ljava/lang/Object;", Cond.methodLink RJx35411 31 yJx35411_checkForComodification_da8c8, Cond.instanceMethod yJx35411_checkForComodification_da8c8, Cond.selects RJx35411 yJx35411_checkForComodification_da8c8 yJx35411_checkForComodification_da8c8, Cond.code yJx35411_checkForComodification_da8c8 cJx35411_checkForComodification_da8c8 1 none, Cond.methodLink RX14 177 yX12_gives, Cond.instanceMethod yX12_gives, Cond.selects RX12 yX12_gives yX12_gives, Cond.initialized RX12, Cond.code yX12_gives cX12_gives 3 (some .int), Cond.fieldLink RX12 33 "CuratorAquarumModel$Nozzle" "isShut" "Z", Cond.fieldLink RX12 27 "CuratorAquarumModel$Nozzle" "height" "I"]
def wsX14_given : List Cond := .code yX14_given cX14_given 7 (some .int) :: ((wsX14_given_r1 ++ wsX14_given_r2) ++ wsX140 ++ wsX120 ++ wsJx354110 ++ wsJx4a65c0)
def wsX14_fills_r1 : List Cond := [Cond.fieldLink RX14 10 "CuratorAquarumModel" "nodes" "Ljava/util/ArrayList;", Cond.classLink RX14 58 "CuratorAquarumModel$Node", Cond.classLink RX14 180 RJ0, Cond.fieldLink RX14 19 "CuratorAquarumModel" "nozzles" "Ljava/util/ArrayList;", Cond.classLink RX14 166 "CuratorAquarumModel$Nozzle", Cond.fieldLink RX14 29 "CuratorAquarumModel" "accounts" "[I", Cond.methodLink RX14 67 yJx4a65c_get_915e3, Cond.instanceMethod yJx4a65c_get_915e3, Cond.selects RJx4a65c yJx4a65c_get_915e3 yJx4a65c_get_915e3, Cond.initialized RJx4a65c, Cond.code yJx4a65c_get_915e3 cJx4a65c_get_915e3 2 (some (.object "java/lang/Object")), Cond.fieldLink RJx4a65c 48 "java/util/ArrayList" "size" "I", Cond.methodLink RJx4a65c 118 yJ15_checkIndex_7cf53, Cond.static yJ15_checkIndex_7cf53, Cond.initialized RJ15, Cond.code yJ15_checkIndex_7cf53 cJ15_checkIndex_7cf53 2 (some .int), Cond.methodLink RJ15 105 yJ3_checkIndex_8e157, Cond.static yJ3_checkIndex_8e157, Cond.initialized RJ3, Cond.code yJ3_checkIndex_8e157 cJ3_checkIndex_8e157 3 (some .int), Cond.methodLink RJx4a65c 123 yJx4a65c_elementData_915e3, Cond.instanceMethod yJx4a65c_elementData_915e3, Cond.selects RJx4a65c yJx4a65c_elementData_915e3 yJx4a65c_elementData_915e3, Cond.code yJx4a65c_elementData_915e3 cJx4a65c_elementData_915e3 2 (some (.object "java/lang/Object"))]
def wsX14_fills_r2 : List Cond := [Cond.fieldLink RJx4a65c 9 "java/util/ArrayList" "elementData" "[Ljava/lang/Object;", Cond.methodLink RX14 200 yJ0_charAt_5068e, Cond.instanceMethod yJ0_charAt_5068e, Cond.selects RJ0 yJ0_charAt_5068e yJ0_charAt_5068e, Cond.initialized RJ0, Cond.code yJ0_charAt_5068e cJ0_charAt_5068e 2 (some .char), Cond.fieldLink RJ0 9 "java/lang/String" "value" "[B", Cond.methodLink RJ0 492 yJ0_isLatin1_aae02, Cond.instanceMethod yJ0_isLatin1_aae02, Cond.selects RJ0 yJ0_isLatin1_aae02 yJ0_isLatin1_aae02, Cond.code yJ0_isLatin1_aae02 cJ0_isLatin1_aae02 1 (some .boolean), Cond.fieldLink RJ0 38 "java/lang/String" "COMPACT_STRINGS" "Z", Cond.fieldLink RJ0 15 "java/lang/String" "coder" "B", Cond.methodLink RJ0 495 yJ1_charAt_3b067, Cond.static yJ1_charAt_3b067, Cond.initialized RJ1, Cond.code yJ1_charAt_3b067 cJ1_charAt_3b067 2 (some .char), Cond.methodLink RJ1 9 yJ0_checkIndex_df160, Cond.static yJ0_checkIndex_df160, Cond.code yJ0_checkIndex_df160 cJ0_checkIndex_df160 2 none, Cond.fieldLink RJ0 1053 "jdk/internal/util/Preconditions" "SIOOBE_FORMATTER" "Ljava/util/function/BiFunction;", Cond.methodLink RJ0 1059 yJ3_checkIndex_8e157, Cond.methodLink RJ0 498 yJ2_charAt_3b067, Cond.static yJ2_charAt_3b067]
def wsX14_fills_r3 : List Cond := [Cond.initialized RJ2, Cond.code yJ2_charAt_3b067 cJ2_charAt_3b067 2 (some .char), Cond.methodLink RJ2 67 yJ2_checkIndex_2214a, Cond.static yJ2_checkIndex_2214a, Cond.code yJ2_checkIndex_2214a cJ2_checkIndex_2214a 2 none, Cond.methodLink RJ2 48 yJ2_length_9d52b, Cond.static yJ2_length_9d52b, Cond.code yJ2_length_9d52b cJ2_length_9d52b 1 (some .int), Cond.methodLink RJ2 414 yJ0_checkIndex_df160, Cond.methodLink RJ2 71 yJ2_getChar_3b067, Cond.static yJ2_getChar_3b067, Cond.code yJ2_getChar_3b067 cJ2_getChar_3b067 2 (some .char), Cond.fieldLink RJ2 44 "java/lang/StringUTF16" "$assertionsDisabled" "Z", Cond.fieldLink RJ2 59 "java/lang/StringUTF16" "HI_BYTE_SHIFT" "I", Cond.fieldLink RJ2 63 "java/lang/StringUTF16" "LO_BYTE_SHIFT" "I", Cond.methodLink RX14 204 yJ0_indexOf_0f7a4, Cond.instanceMethod yJ0_indexOf_0f7a4, Cond.selects RJ0 yJ0_indexOf_0f7a4 yJ0_indexOf_0f7a4, Cond.code yJ0_indexOf_0f7a4 cJ0_indexOf_0f7a4 2 (some .int), Cond.methodLink RJ0 633 yJ0_indexOf_7cf53, Cond.instanceMethod yJ0_indexOf_7cf53, Cond.selects RJ0 yJ0_indexOf_7cf53 yJ0_indexOf_7cf53, Cond.code yJ0_indexOf_7cf53 cJ0_indexOf_7cf53 3 (some .int), Cond.methodLink RJ0 505 yJ0_length_8abf5]
def wsX14_fills_r4 : List Cond := [Cond.instanceMethod yJ0_length_8abf5, Cond.selects RJ0 yJ0_length_8abf5 yJ0_length_8abf5, Cond.code yJ0_length_8abf5 cJ0_length_8abf5 1 (some .int), Cond.methodLink RJ0 335 yJ0_coder_7d493, Cond.instanceMethod yJ0_coder_7d493, Cond.selects RJ0 yJ0_coder_7d493 yJ0_coder_7d493, Cond.code yJ0_coder_7d493 cJ0_coder_7d493 1 (some .byte), Cond.methodLink RJ0 637 yJ1_indexOf_4cfef, Cond.static yJ1_indexOf_4cfef, Cond.code yJ1_indexOf_4cfef cJ1_indexOf_4cfef 4 (some .int), Cond.methodLink RJ1 92 Lib.Math.max.name, Cond.static Lib.Math.max.name, Cond.initialized "java/lang/Math", Cond.code Lib.Math.max.name Lib.Math.max.code 2 (some .int), Cond.methodLink RJ1 38 Lib.Math.min.name, Cond.static Lib.Math.min.name, Cond.code Lib.Math.min.name Lib.Math.min.code 2 (some .int), Cond.methodLink RJ1 88 yJ1_canEncode_9a6ad, Cond.static yJ1_canEncode_9a6ad, Cond.code yJ1_canEncode_9a6ad cJ1_canEncode_9a6ad 1 (some .boolean), Cond.methodLink RJ1 95 yJ1_indexOfChar_4cfef, Cond.static yJ1_indexOfChar_4cfef, Cond.code yJ1_indexOfChar_4cfef cJ1_indexOfChar_4cfef 6 (some .int), Cond.methodLink RJ0 640 yJ2_indexOf_4cfef]
def wsX14_fills_r5 : List Cond := [Cond.static yJ2_indexOf_4cfef, Cond.code yJ2_indexOf_4cfef cJ2_indexOf_4cfef 4 (some .int), Cond.methodLink RJ2 224 Lib.Math.max.name, Cond.methodLink RJ2 183 Lib.Math.min.name, Cond.constant RJ2 227 (65536), Cond.methodLink RJ2 228 yJ2_indexOfChar_4cfef, Cond.static yJ2_indexOfChar_4cfef, Cond.code yJ2_indexOfChar_4cfef cJ2_indexOfChar_4cfef 4 (some .int), Cond.methodLink RJ2 96 yJ2_checkBoundsBeginEnd_d044e, Cond.static yJ2_checkBoundsBeginEnd_d044e, Cond.code yJ2_checkBoundsBeginEnd_d044e cJ2_checkBoundsBeginEnd_d044e 3 none, Cond.methodLink RJ2 241 yJ0_checkBoundsBeginEnd_23922, Cond.static yJ0_checkBoundsBeginEnd_23922, Cond.code yJ0_checkBoundsBeginEnd_23922 cJ0_checkBoundsBeginEnd_23922 3 none, Cond.methodLink RJ0 1062 yJ3_checkFromToIndex_8c36e, Cond.static yJ3_checkFromToIndex_8c36e, Cond.code yJ3_checkFromToIndex_8c36e cJ3_checkFromToIndex_8c36e 4 (some .int), Cond.methodLink RJ2 244 yJ2_indexOfCharUnsafe_4cfef, Cond.static yJ2_indexOfCharUnsafe_4cfef, Cond.code yJ2_indexOfCharUnsafe_4cfef cJ2_indexOfCharUnsafe_4cfef 5 (some .int), Cond.methodLink RJ2 232 yJ2_indexOfSupplementary_4cfef, Cond.static yJ2_indexOfSupplementary_4cfef, Cond.code yJ2_indexOfSupplementary_4cfef cJ2_indexOfSupplementary_4cfef 7 (some .int), Cond.methodLink RJ2 164 yJ11_isValidCodePoint_9a6ad]
def wsX14_fills_r6 : List Cond := [Cond.static yJ11_isValidCodePoint_9a6ad, Cond.initialized RJ11, Cond.code yJ11_isValidCodePoint_9a6ad cJ11_isValidCodePoint_9a6ad 2 (some .boolean), Cond.methodLink RJ2 157 yJ11_highSurrogate_5068e, Cond.static yJ11_highSurrogate_5068e, Cond.code yJ11_highSurrogate_5068e cJ11_highSurrogate_5068e 1 (some .char), Cond.constant RJ11 110 (55232), Cond.methodLink RJ2 161 yJ11_lowSurrogate_5068e, Cond.static yJ11_lowSurrogate_5068e, Cond.code yJ11_lowSurrogate_5068e cJ11_lowSurrogate_5068e 1 (some .char), Cond.constant RJ11 76 (56320), Cond.methodLink RX14 208 yX14_given, Cond.instanceMethod yX14_given, Cond.selects RX14 yX14_given yX14_given, Cond.initialized RX14, Cond.code yX14_given cX14_given 7 (some .int), Cond.methodLink RX14 140 yJx4a65c_iterator_32c93, Cond.instanceMethod yJx4a65c_iterator_32c93, Cond.selects RJx4a65c yJx4a65c_iterator_32c93 yJx4a65c_iterator_32c93, Cond.code yJx4a65c_iterator_32c93 cJx4a65c_iterator_32c93 1 (some (.object "java/util/Iterator")), Cond.classLink RJx4a65c 267 RJx35411, Cond.instantiable RJx35411 4, Cond.initialized RJx35411, Cond.methodLink RJx4a65c 269 yJx35411_init_45d68]
def wsX14_fills_r7 : List Cond := [Cond.instanceMethod yJx35411_init_45d68, Cond.code yJx35411_init_45d68 cJx35411_init_45d68 2 none, Cond.fieldLink RJx35411 1 "java/util/ArrayList$Itr" "this$0" "Ljava/util/ArrayList;", Cond.methodLink RJx35411 7 objectInit, Cond.instanceMethod objectInit, Cond.code objectInit ⟨#[0xb1]⟩ 1 none, Cond.fieldLink RJx35411 13 "java/util/ArrayList$Itr" "lastRet" "I", Cond.fieldLink RJx35411 17 "java/util/ArrayList" "modCount" "I", Cond.sameField "java/util/ArrayList" "java/util/AbstractList" "modCount" "I", Cond.fieldLink RJx35411 22 "java/util/ArrayList$Itr" "expectedModCount" "I", Cond.methodLink RX14 144 ⟨"java/util/Iterator", "hasNext", "()Z"⟩, Cond.selects RJx35411 ⟨"java/util/Iterator", "hasNext", "()Z"⟩ yJx35411_hasNext_aae02, Cond.instanceMethod yJx35411_hasNext_aae02, Cond.code yJx35411_hasNext_aae02 cJx35411_hasNext_aae02 1 (some .boolean), Cond.fieldLink RJx35411 25 "java/util/ArrayList$Itr" "cursor" "I", Cond.methodLink RX14 150 ⟨"java/util/Iterator", "next", "()Ljava/lang/Object;"⟩, Cond.selects RJx35411 ⟨"java/util/Iterator", "next", "()Ljava/lang/Object;"⟩ yJx35411_next_0502b, Cond.instanceMethod yJx35411_next_0502b, Cond.code yJx35411_next_0502b cJx35411_next_0502b 3 (some (.object "java/lang/Object")), Cond.fieldLink RJx35411 37 "java/util/ArrayList" "elementData" "[Ljava/lang/Object;", Cond.methodLink RJx35411 31 yJx35411_checkForComodification_da8c8, Cond.instanceMethod yJx35411_checkForComodification_da8c8, Cond.selects RJx35411 yJx35411_checkForComodification_da8c8 yJx35411_checkForComodification_da8c8, Cond.code yJx35411_checkForComodification_da8c8 cJx35411_checkForComodification_da8c8 1 none]
def wsX14_fills_r8 : List Cond := [Cond.methodLink RX14 177 yX12_gives, Cond.instanceMethod yX12_gives, Cond.selects RX12 yX12_gives yX12_gives, Cond.initialized RX12, Cond.code yX12_gives cX12_gives 3 (some .int), Cond.fieldLink RX12 33 "CuratorAquarumModel$Nozzle" "isShut" "Z", Cond.fieldLink RX12 27 "CuratorAquarumModel$Nozzle" "height" "I"]
def wsX14_fills : List Cond := .code yX14_fills cX14_fills 11 none :: ((wsX14_fills_r1 ++ (wsX14_fills_r2 ++ (wsX14_fills_r3 ++ (wsX14_fills_r4 ++ (wsX14_fills_r5 ++ (wsX14_fills_r6 ++ (wsX14_fills_r7 ++ wsX14_fills_r8))))))) ++ wsX140 ++ wsX110 ++ wsX120 ++ wsJx4a65c0 ++ wsJ00 ++ wsJx354110)
set_option maxRecDepth 20000 in
theorem ggX14_given_Jx4a65c_iterator_32c93 : GoodIn wsX14_given wsJx4a65c_iterator_32c93 := goodIn_r _ [7, 8, 9, 10, 11, 12, 13, 14, 15, 16, 17, 18, 19, 20, 21, 65, 66, 67, 68, 69, 70, 71] (by decide +kernel) (by decide +kernel)
set_option maxRecDepth 20000 in
theorem gX14_given_Jx4a65c_iterator_32c93 : GoodIn wsX14_given (wsV RX14 140 RJx4a65c yJx4a65c_iterator_32c93 wsJx4a65c_iterator_32c93) := goodIn_app (goodIn_of _ (by decide +kernel)) ggX14_given_Jx4a65c_iterator_32c93
set_option maxRecDepth 20000 in
theorem ggX14_given_Jx35411_hasNext_aae02 : GoodIn wsX14_given wsJx35411_hasNext_aae02 := goodIn_r _ [25, 26, 14, 65, 66, 67, 68, 69, 70, 71] (by decide +kernel) (by decide +kernel)
set_option maxRecDepth 20000 in
theorem gX14_given_Jx35411_hasNext_aae02_f144Jx35411 : GoodIn wsX14_given (va_wsF RX14 144 RJx35411 ⟨"java/util/Iterator", "hasNext", "()Z"⟩ yJx35411_hasNext_aae02 wsJx35411_hasNext_aae02) := goodIn_app (goodIn_of _ (by decide +kernel)) ggX14_given_Jx35411_hasNext_aae02
theorem dX14_given_0 : decode cX14_given 0 = .ok (.iconst 0, 1) := by decide +kernel
theorem dX14_given_1 : decode cX14_given 1 = .ok (.istore 4, 2) := by decide +kernel
theorem dX14_given_3 : decode cX14_given 3 = .ok (.aload_n 0, 1) := by decide +kernel
theorem dX14_given_4 : decode cX14_given 4 = .ok (.getfield 19, 3) := by decide +kernel
theorem dX14_given_7 : decode cX14_given 7 = .ok (.invokevirtual 140, 3) := by decide +kernel
theorem dX14_given_10 : decode cX14_given 10 = .ok (.astore 5, 2) := by decide +kernel
theorem dX14_given_12 : decode cX14_given 12 = .ok (.aload 5, 2) := by decide +kernel
theorem dX14_given_14 : decode cX14_given 14 = .ok (.invokeinterface 144 1, 5) := by decide +kernel
theorem dX14_given_19 : decode cX14_given 19 = .ok (.ifCond .eq 56, 3) := by decide +kernel
theorem dX14_given_22 : decode cX14_given 22 = .ok (.aload 5, 2) := by decide +kernel
theorem dX14_given_24 : decode cX14_given 24 = .ok (.invokeinterface 150 1, 5) := by decide +kernel
theorem dX14_given_29 : decode cX14_given 29 = .ok (.checkcast 166, 3) := by decide +kernel
theorem dX14_given_32 : decode cX14_given 32 = .ok (.astore 6, 2) := by decide +kernel
theorem dX14_given_34 : decode cX14_given 34 = .ok (.iload 4, 2) := by decide +kernel
theorem dX14_given_36 : decode cX14_given 36 = .ok (.aload 6, 2) := by decide +kernel
theorem dX14_given_38 : decode cX14_given 38 = .ok (.getfield 168, 3) := by decide +kernel
theorem dX14_given_41 : decode cX14_given 41 = .ok (.iload_n 1, 1) := by decide +kernel
theorem dX14_given_42 : decode cX14_given 42 = .ok (.if_icmp .ne 26, 3) := by decide +kernel
theorem dX14_given_45 : decode cX14_given 45 = .ok (.aload 6, 2) := by decide +kernel
theorem dX14_given_47 : decode cX14_given 47 = .ok (.getfield 171, 3) := by decide +kernel
theorem dX14_given_50 : decode cX14_given 50 = .ok (.iload_n 2, 1) := by decide +kernel
theorem dX14_given_51 : decode cX14_given 51 = .ok (.if_icmp .ne 17, 3) := by decide +kernel
theorem dX14_given_54 : decode cX14_given 54 = .ok (.aload 6, 2) := by decide +kernel
theorem dX14_given_56 : decode cX14_given 56 = .ok (.aload 6, 2) := by decide +kernel
theorem dX14_given_58 : decode cX14_given 58 = .ok (.getfield 174, 3) := by decide +kernel
theorem dX14_given_61 : decode cX14_given 61 = .ok (.iload_n 3, 1) := by decide +kernel
theorem dX14_given_62 : decode cX14_given 62 = .ok (.invokevirtual 177, 3) := by decide +kernel
theorem dX14_given_65 : decode cX14_given 65 = .ok (.goto 4, 3) := by decide +kernel
theorem dX14_given_68 : decode cX14_given 68 = .ok (.iconst 0, 1) := by decide +kernel
theorem dX14_given_69 : decode cX14_given 69 = .ok (.iadd, 1) := by decide +kernel
theorem dX14_given_70 : decode cX14_given 70 = .ok (.istore 4, 2) := by decide +kernel
theorem dX14_given_72 : decode cX14_given 72 = .ok (.goto (-60), 3) := by decide +kernel
theorem dX14_given_75 : decode cX14_given 75 = .ok (.iload 4, 2) := by decide +kernel
theorem dX14_given_77 : decode cX14_given 77 = .ok (.ireturn, 1) := by decide +kernel
set_option maxRecDepth 20000 in
theorem ggX14_fills_X14_given : GoodIn wsX14_fills wsX14_given := goodIn_r _ [136, 4, 5, 137, 138, 139, 10, 140, 141, 142, 143, 144, 145, 146, 147, 148, 149, 150, 151, 152, 153, 154, 155, 156, 157, 158, 159, 160, 161, 162, 163, 164, 165, 166, 167, 168, 169, 170, 171, 172, 173, 174, 175, 176, 177, 178, 179, 180, 181, 182, 183, 184, 185, 186, 187, 188, 189, 202, 203, 204, 205, 206, 207, 208, 209, 217, 218, 219, 220, 210, 211, 212] (by decide +kernel) (by decide +kernel)
set_option maxRecDepth 20000 in
theorem gX14_fills_X14_given : GoodIn wsX14_fills (wsV RX14 208 RX14 yX14_given wsX14_given) := goodIn_app (goodIn_of _ (by decide +kernel)) ggX14_fills_X14_given
theorem dX14_fills_0 : decode cX14_fills 0 = .ok (.aload_n 0, 1) := by decide +kernel
theorem dX14_fills_1 : decode cX14_fills 1 = .ok (.getfield 10, 3) := by decide +kernel
theorem dX14_fills_4 : decode cX14_fills 4 = .ok (.iload_n 1, 1) := by decide +kernel
theorem dX14_fills_5 : decode cX14_fills 5 = .ok (.invokevirtual 67, 3) := by decide +kernel
theorem dX14_fills_8 : decode cX14_fills 8 = .ok (.checkcast 58, 3) := by decide +kernel
theorem dX14_fills_11 : decode cX14_fills 11 = .ok (.astore_n 2, 1) := by decide +kernel
theorem dX14_fills_12 : decode cX14_fills 12 = .ok (.bipush 6, 2) := by decide +kernel
theorem dX14_fills_14 : decode cX14_fills 14 = .ok (.anewarray 180, 3) := by decide +kernel
theorem dX14_fills_17 : decode cX14_fills 17 = .ok (.dup, 1) := by decide +kernel
theorem dX14_fills_18 : decode cX14_fills 18 = .ok (.iconst 0, 1) := by decide +kernel
theorem dX14_fills_19 : decode cX14_fills 19 = .ok (.ldc 182, 2) := by decide +kernel
theorem dX14_fills_21 : decode cX14_fills 21 = .ok (.aastore, 1) := by decide +kernel
theorem dX14_fills_22 : decode cX14_fills 22 = .ok (.dup, 1) := by decide +kernel
theorem dX14_fills_23 : decode cX14_fills 23 = .ok (.iconst 1, 1) := by decide +kernel
theorem dX14_fills_24 : decode cX14_fills 24 = .ok (.ldc 184, 2) := by decide +kernel
theorem dX14_fills_26 : decode cX14_fills 26 = .ok (.aastore, 1) := by decide +kernel
theorem dX14_fills_27 : decode cX14_fills 27 = .ok (.dup, 1) := by decide +kernel
theorem dX14_fills_28 : decode cX14_fills 28 = .ok (.iconst 2, 1) := by decide +kernel
theorem dX14_fills_29 : decode cX14_fills 29 = .ok (.ldc 186, 2) := by decide +kernel
theorem dX14_fills_31 : decode cX14_fills 31 = .ok (.aastore, 1) := by decide +kernel
theorem dX14_fills_32 : decode cX14_fills 32 = .ok (.dup, 1) := by decide +kernel
theorem dX14_fills_33 : decode cX14_fills 33 = .ok (.iconst 3, 1) := by decide +kernel
theorem dX14_fills_34 : decode cX14_fills 34 = .ok (.ldc 188, 2) := by decide +kernel
theorem dX14_fills_36 : decode cX14_fills 36 = .ok (.aastore, 1) := by decide +kernel
theorem dX14_fills_37 : decode cX14_fills 37 = .ok (.dup, 1) := by decide +kernel
theorem dX14_fills_38 : decode cX14_fills 38 = .ok (.iconst 4, 1) := by decide +kernel
theorem dX14_fills_39 : decode cX14_fills 39 = .ok (.ldc 190, 2) := by decide +kernel
theorem dX14_fills_41 : decode cX14_fills 41 = .ok (.aastore, 1) := by decide +kernel
theorem dX14_fills_42 : decode cX14_fills 42 = .ok (.dup, 1) := by decide +kernel
theorem dX14_fills_43 : decode cX14_fills 43 = .ok (.iconst 5, 1) := by decide +kernel
theorem dX14_fills_44 : decode cX14_fills 44 = .ok (.ldc 192, 2) := by decide +kernel
theorem dX14_fills_46 : decode cX14_fills 46 = .ok (.aastore, 1) := by decide +kernel
theorem dX14_fills_47 : decode cX14_fills 47 = .ok (.astore_n 3, 1) := by decide +kernel
theorem dX14_fills_48 : decode cX14_fills 48 = .ok (.aload_n 2, 1) := by decide +kernel
theorem dX14_fills_49 : decode cX14_fills 49 = .ok (.getfield 194, 3) := by decide +kernel
theorem dX14_fills_52 : decode cX14_fills 52 = .ok (.istore 4, 2) := by decide +kernel
theorem dX14_fills_54 : decode cX14_fills 54 = .ok (.iconst 0, 1) := by decide +kernel
theorem dX14_fills_55 : decode cX14_fills 55 = .ok (.istore 5, 2) := by decide +kernel
theorem dX14_fills_57 : decode cX14_fills 57 = .ok (.iload 5, 2) := by decide +kernel
theorem dX14_fills_59 : decode cX14_fills 59 = .ok (.iconst 3, 1) := by decide +kernel
theorem dX14_fills_60 : decode cX14_fills 60 = .ok (.if_icmp .ge 215, 3) := by decide +kernel
theorem dX14_fills_63 : decode cX14_fills 63 = .ok (.ldc 182, 2) := by decide +kernel
theorem dX14_fills_65 : decode cX14_fills 65 = .ok (.aload_n 3, 1) := by decide +kernel
theorem dX14_fills_66 : decode cX14_fills 66 = .ok (.aload_n 2, 1) := by decide +kernel
theorem dX14_fills_67 : decode cX14_fills 67 = .ok (.getfield 197, 3) := by decide +kernel
theorem dX14_fills_70 : decode cX14_fills 70 = .ok (.aaload, 1) := by decide +kernel
theorem dX14_fills_71 : decode cX14_fills 71 = .ok (.iload 5, 2) := by decide +kernel
theorem dX14_fills_73 : decode cX14_fills 73 = .ok (.invokevirtual 200, 3) := by decide +kernel
theorem dX14_fills_76 : decode cX14_fills 76 = .ok (.invokevirtual 204, 3) := by decide +kernel
theorem dX14_fills_79 : decode cX14_fills 79 = .ok (.istore 6, 2) := by decide +kernel
theorem dX14_fills_81 : decode cX14_fills 81 = .ok (.iconst 0, 1) := by decide +kernel
theorem dX14_fills_82 : decode cX14_fills 82 = .ok (.istore 7, 2) := by decide +kernel
theorem dX14_fills_84 : decode cX14_fills 84 = .ok (.iload 7, 2) := by decide +kernel
theorem dX14_fills_86 : decode cX14_fills 86 = .ok (.bipush 100, 2) := by decide +kernel
theorem dX14_fills_88 : decode cX14_fills 88 = .ok (.if_icmp .ge 25, 3) := by decide +kernel
theorem dX14_fills_91 : decode cX14_fills 91 = .ok (.aload_n 0, 1) := by decide +kernel
theorem dX14_fills_92 : decode cX14_fills 92 = .ok (.iload_n 1, 1) := by decide +kernel
theorem dX14_fills_93 : decode cX14_fills 93 = .ok (.iload 6, 2) := by decide +kernel
theorem dX14_fills_95 : decode cX14_fills 95 = .ok (.iload 7, 2) := by decide +kernel
theorem dX14_fills_97 : decode cX14_fills 97 = .ok (.iconst 1, 1) := by decide +kernel
theorem dX14_fills_98 : decode cX14_fills 98 = .ok (.iadd, 1) := by decide +kernel
theorem dX14_fills_99 : decode cX14_fills 99 = .ok (.invokevirtual 208, 3) := by decide +kernel
theorem dX14_fills_102 : decode cX14_fills 102 = .ok (.iload 4, 2) := by decide +kernel
theorem dX14_fills_104 : decode cX14_fills 104 = .ok (.if_icmp .gt 9, 3) := by decide +kernel
theorem dX14_fills_107 : decode cX14_fills 107 = .ok (.iinc 7 1, 3) := by decide +kernel
theorem dX14_fills_110 : decode cX14_fills 110 = .ok (.goto (-26), 3) := by decide +kernel
theorem dX14_fills_113 : decode cX14_fills 113 = .ok (.aload_n 2, 1) := by decide +kernel
theorem dX14_fills_114 : decode cX14_fills 114 = .ok (.getfield 212, 3) := by decide +kernel
theorem dX14_fills_117 : decode cX14_fills 117 = .ok (.iload 6, 2) := by decide +kernel
theorem dX14_fills_119 : decode cX14_fills 119 = .ok (.iload 7, 2) := by decide +kernel
theorem dX14_fills_121 : decode cX14_fills 121 = .ok (.iastore, 1) := by decide +kernel
theorem dX14_fills_122 : decode cX14_fills 122 = .ok (.iload 4, 2) := by decide +kernel
theorem dX14_fills_124 : decode cX14_fills 124 = .ok (.aload_n 0, 1) := by decide +kernel
theorem dX14_fills_125 : decode cX14_fills 125 = .ok (.iload_n 1, 1) := by decide +kernel
theorem dX14_fills_126 : decode cX14_fills 126 = .ok (.iload 6, 2) := by decide +kernel
theorem dX14_fills_128 : decode cX14_fills 128 = .ok (.iload 7, 2) := by decide +kernel
theorem dX14_fills_130 : decode cX14_fills 130 = .ok (.invokevirtual 208, 3) := by decide +kernel
theorem dX14_fills_133 : decode cX14_fills 133 = .ok (.isub, 1) := by decide +kernel
theorem dX14_fills_134 : decode cX14_fills 134 = .ok (.istore 4, 2) := by decide +kernel
theorem dX14_fills_136 : decode cX14_fills 136 = .ok (.aload_n 0, 1) := by decide +kernel
theorem dX14_fills_137 : decode cX14_fills 137 = .ok (.getfield 19, 3) := by decide +kernel
theorem dX14_fills_140 : decode cX14_fills 140 = .ok (.invokevirtual 140, 3) := by decide +kernel
theorem dX14_fills_143 : decode cX14_fills 143 = .ok (.astore 8, 2) := by decide +kernel
theorem dX14_fills_145 : decode cX14_fills 145 = .ok (.aload 8, 2) := by decide +kernel
theorem dX14_fills_147 : decode cX14_fills 147 = .ok (.invokeinterface 144 1, 5) := by decide +kernel
theorem dX14_fills_152 : decode cX14_fills 152 = .ok (.ifCond .eq 117, 3) := by decide +kernel
theorem dX14_fills_155 : decode cX14_fills 155 = .ok (.aload 8, 2) := by decide +kernel
theorem dX14_fills_157 : decode cX14_fills 157 = .ok (.invokeinterface 150 1, 5) := by decide +kernel
theorem dX14_fills_162 : decode cX14_fills 162 = .ok (.checkcast 166, 3) := by decide +kernel
theorem dX14_fills_165 : decode cX14_fills 165 = .ok (.astore 9, 2) := by decide +kernel
theorem dX14_fills_167 : decode cX14_fills 167 = .ok (.aload 9, 2) := by decide +kernel
theorem dX14_fills_169 : decode cX14_fills 169 = .ok (.getfield 168, 3) := by decide +kernel
theorem dX14_fills_172 : decode cX14_fills 172 = .ok (.iload_n 1, 1) := by decide +kernel
theorem dX14_fills_173 : decode cX14_fills 173 = .ok (.if_icmp .ne 17, 3) := by decide +kernel
theorem dX14_fills_176 : decode cX14_fills 176 = .ok (.aload 9, 2) := by decide +kernel
theorem dX14_fills_178 : decode cX14_fills 178 = .ok (.getfield 171, 3) := by decide +kernel
theorem dX14_fills_181 : decode cX14_fills 181 = .ok (.iload 6, 2) := by decide +kernel
theorem dX14_fills_183 : decode cX14_fills 183 = .ok (.if_icmp .ne 7, 3) := by decide +kernel
theorem dX14_fills_186 : decode cX14_fills 186 = .ok (.iconst 1, 1) := by decide +kernel
theorem dX14_fills_187 : decode cX14_fills 187 = .ok (.goto 4, 3) := by decide +kernel
theorem dX14_fills_190 : decode cX14_fills 190 = .ok (.iconst 0, 1) := by decide +kernel
theorem dX14_fills_191 : decode cX14_fills 191 = .ok (.istore 10, 2) := by decide +kernel
theorem dX14_fills_193 : decode cX14_fills 193 = .ok (.aload_n 0, 1) := by decide +kernel
theorem dX14_fills_194 : decode cX14_fills 194 = .ok (.getfield 29, 3) := by decide +kernel
theorem dX14_fills_197 : decode cX14_fills 197 = .ok (.iconst 1, 1) := by decide +kernel
theorem dX14_fills_198 : decode cX14_fills 198 = .ok (.dup2, 1) := by decide +kernel
theorem dX14_fills_199 : decode cX14_fills 199 = .ok (.iaload, 1) := by decide +kernel
theorem dX14_fills_200 : decode cX14_fills 200 = .ok (.iload 10, 2) := by decide +kernel
theorem dX14_fills_202 : decode cX14_fills 202 = .ok (.ifCond .eq 18, 3) := by decide +kernel
theorem dX14_fills_205 : decode cX14_fills 205 = .ok (.aload 9, 2) := by decide +kernel
theorem dX14_fills_207 : decode cX14_fills 207 = .ok (.aload 9, 2) := by decide +kernel
theorem dX14_fills_209 : decode cX14_fills 209 = .ok (.getfield 215, 3) := by decide +kernel
theorem dX14_fills_212 : decode cX14_fills 212 = .ok (.iload 7, 2) := by decide +kernel
theorem dX14_fills_214 : decode cX14_fills 214 = .ok (.invokevirtual 177, 3) := by decide +kernel
theorem dX14_fills_217 : decode cX14_fills 217 = .ok (.goto 4, 3) := by decide +kernel
theorem dX14_fills_220 : decode cX14_fills 220 = .ok (.iconst 0, 1) := by decide +kernel
theorem dX14_fills_221 : decode cX14_fills 221 = .ok (.iadd, 1) := by decide +kernel
theorem dX14_fills_222 : decode cX14_fills 222 = .ok (.iastore, 1) := by decide +kernel
theorem dX14_fills_223 : decode cX14_fills 223 = .ok (.aload_n 0, 1) := by decide +kernel
theorem dX14_fills_224 : decode cX14_fills 224 = .ok (.getfield 29, 3) := by decide +kernel
theorem dX14_fills_227 : decode cX14_fills 227 = .ok (.iconst 2, 1) := by decide +kernel
theorem dX14_fills_228 : decode cX14_fills 228 = .ok (.dup2, 1) := by decide +kernel
theorem dX14_fills_229 : decode cX14_fills 229 = .ok (.iaload, 1) := by decide +kernel
theorem dX14_fills_230 : decode cX14_fills 230 = .ok (.iload 10, 2) := by decide +kernel
theorem dX14_fills_232 : decode cX14_fills 232 = .ok (.ifCond .eq 31, 3) := by decide +kernel
theorem dX14_fills_235 : decode cX14_fills 235 = .ok (.aload 9, 2) := by decide +kernel
theorem dX14_fills_237 : decode cX14_fills 237 = .ok (.aload 9, 2) := by decide +kernel
theorem dX14_fills_239 : decode cX14_fills 239 = .ok (.getfield 174, 3) := by decide +kernel
theorem dX14_fills_242 : decode cX14_fills 242 = .ok (.iload 7, 2) := by decide +kernel
theorem dX14_fills_244 : decode cX14_fills 244 = .ok (.invokevirtual 177, 3) := by decide +kernel
theorem dX14_fills_247 : decode cX14_fills 247 = .ok (.aload 9, 2) := by decide +kernel
theorem dX14_fills_249 : decode cX14_fills 249 = .ok (.aload 9, 2) := by decide +kernel
theorem dX14_fills_251 : decode cX14_fills 251 = .ok (.getfield 215, 3) := by decide +kernel
theorem dX14_fills_254 : decode cX14_fills 254 = .ok (.iload 7, 2) := by decide +kernel
theorem dX14_fills_256 : decode cX14_fills 256 = .ok (.invokevirtual 177, 3) := by decide +kernel
theorem dX14_fills_259 : decode cX14_fills 259 = .ok (.isub, 1) := by decide +kernel
theorem dX14_fills_260 : decode cX14_fills 260 = .ok (.goto 4, 3) := by decide +kernel
theorem dX14_fills_263 : decode cX14_fills 263 = .ok (.iconst 0, 1) := by decide +kernel
theorem dX14_fills_264 : decode cX14_fills 264 = .ok (.iadd, 1) := by decide +kernel
theorem dX14_fills_265 : decode cX14_fills 265 = .ok (.iastore, 1) := by decide +kernel
theorem dX14_fills_266 : decode cX14_fills 266 = .ok (.goto (-121), 3) := by decide +kernel
theorem dX14_fills_269 : decode cX14_fills 269 = .ok (.iinc 5 1, 3) := by decide +kernel
theorem dX14_fills_272 : decode cX14_fills 272 = .ok (.goto (-215), 3) := by decide +kernel
theorem dX14_fills_275 : decode cX14_fills 275 = .ok (.aload_n 2, 1) := by decide +kernel
theorem dX14_fills_276 : decode cX14_fills 276 = .ok (.iload 4, 2) := by decide +kernel
theorem dX14_fills_278 : decode cX14_fills 278 = .ok (.putfield 218, 3) := by decide +kernel
theorem dX14_fills_281 : decode cX14_fills 281 = .ok (.aload_n 0, 1) := by decide +kernel
theorem dX14_fills_282 : decode cX14_fills 282 = .ok (.getfield 29, 3) := by decide +kernel
theorem dX14_fills_285 : decode cX14_fills 285 = .ok (.iconst 5, 1) := by decide +kernel
theorem dX14_fills_286 : decode cX14_fills 286 = .ok (.dup2, 1) := by decide +kernel
theorem dX14_fills_287 : decode cX14_fills 287 = .ok (.iaload, 1) := by decide +kernel
theorem dX14_fills_288 : decode cX14_fills 288 = .ok (.iload 4, 2) := by decide +kernel
theorem dX14_fills_290 : decode cX14_fills 290 = .ok (.iadd, 1) := by decide +kernel
theorem dX14_fills_291 : decode cX14_fills 291 = .ok (.iastore, 1) := by decide +kernel
theorem dX14_fills_292 : decode cX14_fills 292 = .ok (.return_, 1) := by decide +kernel
theorem dJx35411_init_45d68_0 : decode cJx35411_init_45d68 0 = .ok (.aload_n 0, 1) := by decide +kernel
theorem dJx35411_init_45d68_1 : decode cJx35411_init_45d68 1 = .ok (.aload_n 1, 1) := by decide +kernel
theorem dJx35411_init_45d68_2 : decode cJx35411_init_45d68 2 = .ok (.putfield 1, 3) := by decide +kernel
theorem dJx35411_init_45d68_5 : decode cJx35411_init_45d68 5 = .ok (.aload_n 0, 1) := by decide +kernel
theorem dJx35411_init_45d68_6 : decode cJx35411_init_45d68 6 = .ok (.invokespecial 7, 3) := by decide +kernel
theorem dJx35411_init_45d68_9 : decode cJx35411_init_45d68 9 = .ok (.aload_n 0, 1) := by decide +kernel
theorem dJx35411_init_45d68_10 : decode cJx35411_init_45d68 10 = .ok (.iconst (-1), 1) := by decide +kernel
theorem dJx35411_init_45d68_11 : decode cJx35411_init_45d68 11 = .ok (.putfield 13, 3) := by decide +kernel
theorem dJx35411_init_45d68_14 : decode cJx35411_init_45d68 14 = .ok (.aload_n 0, 1) := by decide +kernel
theorem dJx35411_init_45d68_15 : decode cJx35411_init_45d68 15 = .ok (.aload_n 0, 1) := by decide +kernel
theorem dJx35411_init_45d68_16 : decode cJx35411_init_45d68 16 = .ok (.getfield 1, 3) := by decide +kernel
theorem dJx35411_init_45d68_19 : decode cJx35411_init_45d68 19 = .ok (.getfield 17, 3) := by decide +kernel
theorem dJx35411_init_45d68_22 : decode cJx35411_init_45d68 22 = .ok (.putfield 22, 3) := by decide +kernel
theorem dJx35411_init_45d68_25 : decode cJx35411_init_45d68 25 = .ok (.return_, 1) := by decide +kernel
theorem dJx35411_hasNext_aae02_0 : decode cJx35411_hasNext_aae02 0 = .ok (.aload_n 0, 1) := by decide +kernel
theorem dJx35411_hasNext_aae02_1 : decode cJx35411_hasNext_aae02 1 = .ok (.getfield 25, 3) := by decide +kernel
theorem dJx35411_hasNext_aae02_4 : decode cJx35411_hasNext_aae02 4 = .ok (.aload_n 0, 1) := by decide +kernel
theorem dJx35411_hasNext_aae02_5 : decode cJx35411_hasNext_aae02 5 = .ok (.getfield 1, 3) := by decide +kernel
theorem dJx35411_hasNext_aae02_8 : decode cJx35411_hasNext_aae02 8 = .ok (.getfield 28, 3) := by decide +kernel
theorem dJx35411_hasNext_aae02_11 : decode cJx35411_hasNext_aae02 11 = .ok (.if_icmp .eq 7, 3) := by decide +kernel
theorem dJx35411_hasNext_aae02_14 : decode cJx35411_hasNext_aae02 14 = .ok (.iconst 1, 1) := by decide +kernel
theorem dJx35411_hasNext_aae02_15 : decode cJx35411_hasNext_aae02 15 = .ok (.goto 4, 3) := by decide +kernel
theorem dJx35411_hasNext_aae02_18 : decode cJx35411_hasNext_aae02 18 = .ok (.iconst 0, 1) := by decide +kernel
theorem dJx35411_hasNext_aae02_19 : decode cJx35411_hasNext_aae02 19 = .ok (.ireturn, 1) := by decide +kernel
theorem dJx4a65c_iterator_32c93_0 : decode cJx4a65c_iterator_32c93 0 = .ok (.new 267, 3) := by decide +kernel
theorem dJx4a65c_iterator_32c93_3 : decode cJx4a65c_iterator_32c93 3 = .ok (.dup, 1) := by decide +kernel
theorem dJx4a65c_iterator_32c93_4 : decode cJx4a65c_iterator_32c93 4 = .ok (.aload_n 0, 1) := by decide +kernel
theorem dJx4a65c_iterator_32c93_5 : decode cJx4a65c_iterator_32c93 5 = .ok (.invokespecial 269, 3) := by decide +kernel
theorem dJx4a65c_iterator_32c93_8 : decode cJx4a65c_iterator_32c93 8 = .ok (.areturn, 1) := by decide +kernel
