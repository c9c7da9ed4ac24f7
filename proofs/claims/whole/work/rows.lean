section
theorem goodIn_r {big : List Cond} (ws : List Cond) (ps : List Nat) (hp : ws = ps.filterMap (fun i => big[i]?)) (h : ws.all goodWord = true) : GoodIn big ws := by
  intro w hw
  have h1 := List.all_eq_true.mp h w hw
  rw [hp] at hw
  obtain ⟨i, -, hi⟩ := List.mem_filterMap.mp hw
  have hm : w ∈ big := by first | exact List.mem_of_getElem? hi | exact List.getElem?_mem hi
  exact ⟨hm, good_of_word h1⟩
theorem goodIn_app {big a b : List Cond} (ha : GoodIn big a) (hb : GoodIn big b) : GoodIn big (a ++ b) := fun w h => (List.mem_append.mp h).elim (ha w) (hb w)
theorem goodIn_sub {big ws : List Cond} (hm : ∀ w ∈ ws, w ∈ big) (h : ws.all goodWord = true) : GoodIn big ws := fun w hw => ⟨hm w hw, good_of_word (List.all_eq_true.mp h w hw)⟩
def RX11 : String := "CuratorAquarumModel$Node"
def TX11 : u_T := fun k => match k with
  | 0 => ("CuratorAquarumModel$Node", "kind", "C", true)
  | 1 => ("CuratorAquarumModel$Node", "height", "I", true)
  | 2 => ("CuratorAquarumModel$Node", "flow", "I", true)
  | 3 => ("CuratorAquarumModel$Node", "swing", "I", true)
  | 4 => ("CuratorAquarumModel$Node", "own", "I", true)
  | 5 => ("CuratorAquarumModel$Node", "order", "I", false)
  | 6 => ("CuratorAquarumModel$Node", "water", "I", false)
  | 7 => ("CuratorAquarumModel$Node", "hardness", "I", false)
  | 8 => ("CuratorAquarumModel$Node", "cloud", "I", false)
  | 9 => ("CuratorAquarumModel$Node", "overflow", "I", false)
  | 10 => ("CuratorAquarumModel$Node", "waste", "I", false)
  | _ => ("CuratorAquarumModel$Node", "levels", "[I", true)
abbrev wsX110 : List Cond := u_ws RX11 TX11 12
def RX12 : String := "CuratorAquarumModel$Nozzle"
def TX12 : u_T := fun k => match k with
  | 0 => ("CuratorAquarumModel$Nozzle", "node", "I", true)
  | 1 => ("CuratorAquarumModel$Nozzle", "chamber", "I", true)
  | 2 => ("CuratorAquarumModel$Nozzle", "bore", "I", true)
  | 3 => ("CuratorAquarumModel$Nozzle", "height", "I", true)
  | 4 => ("CuratorAquarumModel$Nozzle", "real", "I", false)
  | 5 => ("CuratorAquarumModel$Nozzle", "isShut", "Z", false)
  | 6 => ("CuratorAquarumModel$Nozzle", "person", "I", false)
  | _ => ("CuratorAquarumModel$Nozzle", "house", "I", false)
abbrev wsX120 : List Cond := u_ws RX12 TX12 8
abbrev cX12_gives : ByteArray := prog_15_method_2_code
def yX12_gives : MethodName := ⟨RX12, "gives", "(II)I"⟩
def RX14 : String := "CuratorAquarumModel"
def TX14 : u_T := fun k => match k with
  | 0 => ("CuratorAquarumModel", "nodes", "Ljava/util/ArrayList;", true)
  | 1 => ("CuratorAquarumModel", "stretches", "Ljava/util/ArrayList;", true)
  | 2 => ("CuratorAquarumModel", "nozzles", "Ljava/util/ArrayList;", true)
  | 3 => ("CuratorAquarumModel", "list", "Ljava/util/ArrayList;", true)
  | 4 => ("CuratorAquarumModel", "areDead", "[Z", true)
  | 5 => ("CuratorAquarumModel", "accounts", "[I", true)
  | 6 => ("CuratorAquarumModel", "purses", "[I", true)
  | 7 => ("CuratorAquarumModel", "months", "I", false)
  | 8 => ("CuratorAquarumModel", "rain", "I", false)
  | 9 => ("CuratorAquarumModel", "care", "I", false)
  | 10 => ("CuratorAquarumModel", "z", "I", false)
  | 11 => ("CuratorAquarumModel", "tellers", "I", false)
  | 12 => ("CuratorAquarumModel", "fisc", "I", false)
  | _ => ("CuratorAquarumModel", "thrown", "I", false)
abbrev wsX140 : List Cond := u_ws RX14 TX14 14
abbrev cX14_given : ByteArray := prog_13_method_23_code
def yX14_given : MethodName := ⟨RX14, "given", "(III)I"⟩
abbrev cX14_fills : ByteArray := prog_13_method_24_code
def yX14_fills : MethodName := ⟨RX14, "fills", "(I)V"⟩
abbrev cX14_given_ : ByteArray := prog_13_method_43_code
def RJ11 : String := "java/lang/Character"
abbrev cJ11_isValidCodePoint_9a6ad : ByteArray := prog_21_method_11_code
def yJ11_isValidCodePoint_9a6ad : MethodName := ⟨RJ11, "isValidCodePoint", "(I)Z"⟩
abbrev cJ11_highSurrogate_5068e : ByteArray := prog_21_method_28_code
def yJ11_highSurrogate_5068e : MethodName := ⟨RJ11, "highSurrogate", "(I)C"⟩
abbrev cJ11_lowSurrogate_5068e : ByteArray := prog_21_method_29_code
def yJ11_lowSurrogate_5068e : MethodName := ⟨RJ11, "lowSurrogate", "(I)C"⟩
def RJ0 : String := "java/lang/String"
def TJ0 : u_T := fun k => match k with
  | 0 => ("java/lang/String", "value", "[B", true)
  | 1 => ("java/lang/String", "coder", "B", true)
  | 2 => ("java/lang/String", "hash", "I", false)
  | _ => ("java/lang/String", "hashIsZero", "Z", false)
abbrev wsJ00 : List Cond := u_ws RJ0 TJ0 4
abbrev cJ0_length_8abf5 : ByteArray := prog_34_method_54_code
def yJ0_length_8abf5 : MethodName := ⟨RJ0, "length", "()I"⟩
abbrev cJ0_charAt_5068e : ByteArray := prog_34_method_56_code
def yJ0_charAt_5068e : MethodName := ⟨RJ0, "charAt", "(I)C"⟩
abbrev cJ0_indexOf_0f7a4 : ByteArray := prog_34_method_79_code
def yJ0_indexOf_0f7a4 : MethodName := ⟨RJ0, "indexOf", "(I)I"⟩
abbrev cJ0_indexOf_7cf53 : ByteArray := prog_34_method_80_code
def yJ0_indexOf_7cf53 : MethodName := ⟨RJ0, "indexOf", "(II)I"⟩
abbrev cJ0_coder_7d493 : ByteArray := prog_34_method_152_code
def yJ0_coder_7d493 : MethodName := ⟨RJ0, "coder", "()B"⟩
abbrev cJ0_isLatin1_aae02 : ByteArray := prog_34_method_154_code
def yJ0_isLatin1_aae02 : MethodName := ⟨RJ0, "isLatin1", "()Z"⟩
abbrev cJ0_checkIndex_df160 : ByteArray := prog_34_method_155_code
def yJ0_checkIndex_df160 : MethodName := ⟨RJ0, "checkIndex", "(II)V"⟩
abbrev cJ0_checkBoundsBeginEnd_23922 : ByteArray := prog_34_method_158_code
def yJ0_checkBoundsBeginEnd_23922 : MethodName := ⟨RJ0, "checkBoundsBeginEnd", "(III)V"⟩
def RJ1 : String := "java/lang/StringLatin1"
abbrev cJ1_charAt_3b067 : ByteArray := prog_36_method_2_code
def yJ1_charAt_3b067 : MethodName := ⟨RJ1, "charAt", "([BI)C"⟩
abbrev cJ1_canEncode_9a6ad : ByteArray := prog_36_method_4_code
def yJ1_canEncode_9a6ad : MethodName := ⟨RJ1, "canEncode", "(I)Z"⟩
abbrev cJ1_indexOf_4cfef : ByteArray := prog_36_method_22_code
def yJ1_indexOf_4cfef : MethodName := ⟨RJ1, "indexOf", "([BIII)I"⟩
abbrev cJ1_indexOfChar_4cfef : ByteArray := prog_36_method_23_code
def yJ1_indexOfChar_4cfef : MethodName := ⟨RJ1, "indexOfChar", "([BIII)I"⟩
def RJ2 : String := "java/lang/StringUTF16"
abbrev cJ2_getChar_3b067 : ByteArray := prog_37_method_5_code
def yJ2_getChar_3b067 : MethodName := ⟨RJ2, "getChar", "([BI)C"⟩
abbrev cJ2_length_9d52b : ByteArray := prog_37_method_6_code
def yJ2_length_9d52b : MethodName := ⟨RJ2, "length", "([B)I"⟩
abbrev cJ2_indexOf_4cfef : ByteArray := prog_37_method_40_code
def yJ2_indexOf_4cfef : MethodName := ⟨RJ2, "indexOf", "([BIII)I"⟩
abbrev cJ2_indexOfChar_4cfef : ByteArray := prog_37_method_47_code
def yJ2_indexOfChar_4cfef : MethodName := ⟨RJ2, "indexOfChar", "([BIII)I"⟩
abbrev cJ2_indexOfCharUnsafe_4cfef : ByteArray := prog_37_method_48_code
def yJ2_indexOfCharUnsafe_4cfef : MethodName := ⟨RJ2, "indexOfCharUnsafe", "([BIII)I"⟩
abbrev cJ2_indexOfSupplementary_4cfef : ByteArray := prog_37_method_49_code
def yJ2_indexOfSupplementary_4cfef : MethodName := ⟨RJ2, "indexOfSupplementary", "([BIII)I"⟩
abbrev cJ2_charAt_3b067 : ByteArray := prog_37_method_83_code
def yJ2_charAt_3b067 : MethodName := ⟨RJ2, "charAt", "([BI)C"⟩
abbrev cJ2_checkIndex_2214a : ByteArray := prog_37_method_91_code
def yJ2_checkIndex_2214a : MethodName := ⟨RJ2, "checkIndex", "(I[B)V"⟩
abbrev cJ2_checkBoundsBeginEnd_d044e : ByteArray := prog_37_method_93_code
def yJ2_checkBoundsBeginEnd_d044e : MethodName := ⟨RJ2, "checkBoundsBeginEnd", "(II[B)V"⟩
def RJx35411 : String := "java/util/ArrayList$Itr"
def TJx35411 : u_T := fun k => match k with
  | 0 => ("java/util/ArrayList$Itr", "cursor", "I", false)
  | 1 => ("java/util/ArrayList$Itr", "lastRet", "I", false)
  | 2 => ("java/util/ArrayList$Itr", "expectedModCount", "I", false)
  | _ => ("java/util/ArrayList$Itr", "this$0", "Ljava/util/ArrayList;", true)
def tyJx35411 : Nat → FieldType := fun k => match k with
  | 0 => .int
  | 1 => .int
  | 2 => .int
  | _ => .object "java/util/ArrayList"
abbrev wsJx354110 : List Cond := u_ws RJx35411 TJx35411 4
theorem nmJx35411 : ∀ a, a < 4 → ∀ b, b < 4 → a ≠ b → (TJx35411 a).2.1 ≠ (TJx35411 b).2.1 := by decide +kernel
theorem tyJx35411_ok : ∀ k, k < 4 → parseFieldDescriptor (TJx35411 k).2.2.1 = some (tyJx35411 k) := by decide +kernel
abbrev cJx35411_init_45d68 : ByteArray := prog_46_method_1_code
def yJx35411_init_45d68 : MethodName := ⟨RJx35411, "<init>", "(Ljava/util/ArrayList;)V"⟩
abbrev cJx35411_hasNext_aae02 : ByteArray := prog_46_method_2_code
def yJx35411_hasNext_aae02 : MethodName := ⟨RJx35411, "hasNext", "()Z"⟩
abbrev cJx35411_next_0502b : ByteArray := prog_46_method_3_code
def yJx35411_next_0502b : MethodName := ⟨RJx35411, "next", "()Ljava/lang/Object;"⟩
abbrev cJx35411_checkForComodification_da8c8 : ByteArray := prog_46_method_6_code
def yJx35411_checkForComodification_da8c8 : MethodName := ⟨RJx35411, "checkForComodification", "()V"⟩
def RJx4a65c : String := "java/util/ArrayList"
def TJx4a65c : u_T := fun k => match k with
  | 0 => ("java/util/AbstractList", "modCount", "I", false)
  | 1 => ("java/util/ArrayList", "elementData", "[Ljava/lang/Object;", false)
  | _ => ("java/util/ArrayList", "size", "I", false)
abbrev wsJx4a65c0 : List Cond := u_ws RJx4a65c TJx4a65c 3
abbrev cJx4a65c_elementData_915e3 : ByteArray := prog_45_method_18_code
def yJx4a65c_elementData_915e3 : MethodName := ⟨RJx4a65c, "elementData", "(I)Ljava/lang/Object;"⟩
abbrev cJx4a65c_get_915e3 : ByteArray := prog_45_method_20_code
def yJx4a65c_get_915e3 : MethodName := ⟨RJx4a65c, "get", "(I)Ljava/lang/Object;"⟩
abbrev cJx4a65c_iterator_32c93 : ByteArray := prog_45_method_55_code
def yJx4a65c_iterator_32c93 : MethodName := ⟨RJx4a65c, "iterator", "()Ljava/util/Iterator;"⟩
def RJ15 : String := "java/util/Objects"
abbrev cJ15_checkIndex_7cf53 : ByteArray := prog_52_method_17_code
def yJ15_checkIndex_7cf53 : MethodName := ⟨RJ15, "checkIndex", "(II)I"⟩
def RJ3 : String := "jdk/internal/util/Preconditions"
abbrev cJ3_checkIndex_8e157 : ByteArray := prog_56_method_11_code
def yJ3_checkIndex_8e157 : MethodName := ⟨RJ3, "checkIndex", "(IILjava/util/function/BiFunction;)I"⟩
abbrev cJ3_checkFromToIndex_8c36e : ByteArray := prog_56_method_12_code
def yJ3_checkFromToIndex_8c36e : MethodName := ⟨RJ3, "checkFromToIndex", "(IIILjava/util/function/BiFunction;)I"⟩
def wsJx35411_init_45d68 : List Cond := .code yJx35411_init_45d68 cJx35411_init_45d68 2 none :: ([.fieldLink RJx35411 1 "java/util/ArrayList$Itr" "this$0" "Ljava/util/ArrayList;", .methodLink RJx35411 7 objectInit, .instanceMethod objectInit, .code objectInit ⟨#[0xb1]⟩ 1 none, .fieldLink RJx35411 13 "java/util/ArrayList$Itr" "lastRet" "I", .fieldLink RJx35411 17 "java/util/ArrayList" "modCount" "I", .sameField "java/util/ArrayList" "java/util/AbstractList" "modCount" "I", .fieldLink RJx35411 22 "java/util/ArrayList$Itr" "expectedModCount" "I"] ++ wsJx354110 ++ wsJx4a65c0)
def wsJx4a65c_iterator_32c93 : List Cond := .code yJx4a65c_iterator_32c93 cJx4a65c_iterator_32c93 1 (some (.object "java/util/Iterator")) :: ([.classLink RJx4a65c 267 RJx35411, .instantiable RJx35411 4, .initialized RJx35411, .methodLink RJx4a65c 269 yJx35411_init_45d68, .instanceMethod yJx35411_init_45d68, .code yJx35411_init_45d68 cJx35411_init_45d68 2 none, .fieldLink RJx35411 1 "java/util/ArrayList$Itr" "this$0" "Ljava/util/ArrayList;", .methodLink RJx35411 7 objectInit, .instanceMethod objectInit, .code objectInit ⟨#[0xb1]⟩ 1 none, .fieldLink RJx35411 13 "java/util/ArrayList$Itr" "lastRet" "I", .fieldLink RJx35411 17 "java/util/ArrayList" "modCount" "I", .sameField "java/util/ArrayList" "java/util/AbstractList" "modCount" "I", .fieldLink RJx35411 22 "java/util/ArrayList$Itr" "expectedModCount" "I"] ++ wsJx354110 ++ wsJx4a65c0)
def wsJx35411_hasNext_aae02 : List Cond := .code yJx35411_hasNext_aae02 cJx35411_hasNext_aae02 1 (some .boolean) :: ([.fieldLink RJx35411 25 "java/util/ArrayList$Itr" "cursor" "I", .fieldLink RJx35411 1 "java/util/ArrayList$Itr" "this$0" "Ljava/util/ArrayList;"] ++ wsJx354110 ++ wsJx4a65c0)
def wsX14_given_r1 : List Cond := [Cond.fieldLink RX14 19 "CuratorAquarumModel" "nozzles" "Ljava/util/ArrayList;", Cond.classLink RX14 166 "CuratorAquarumModel$Nozzle", Cond.methodLink RX14 140 yJx4a65c_iterator_32c93, Cond.instanceMethod yJx4a65c_iterator_32c93, Cond.selects RJx4a65c yJx4a65c_iterator_32c93 yJx4a65c_iterator_32c93, Cond.initialized RJx4a65c, Cond.code yJx4a65c_iterator_32c93 cJx4a65c_iterator_32c93 1 (some (.object "java/util/Iterator")), Cond.classLink RJx4a65c 267 RJx35411, Cond.instantiable RJx35411 4, Cond.initialized RJx35411, Cond.methodLink RJx4a65c 269 yJx35411_init_45d68, Cond.instanceMethod yJx35411_init_45d68, Cond.code yJx35411_init_45d68 cJx35411_init_45d68 2 none, Cond.fieldLink RJx35411 1 "java/util/ArrayList$Itr" "this$0" "Ljava/util/ArrayList;", Cond.methodLink RJx35411 7 objectInit, Cond.instanceMethod objectInit, Cond.code objectInit ⟨#[0xb1]⟩ 1 none, Cond.fieldLink RJx35411 13 "java/util/ArrayList$Itr" "lastRet" "I", Cond.fieldLink RJx35411 17 "java/util/ArrayList" "modCount" "I", Cond.sameField "java/util/ArrayList" "java/util/AbstractList" "modCount" "I", Cond.fieldLink RJx35411 22 "java/util/ArrayList$Itr" "expectedModCount" "I", Cond.methodLink RX14 144 ⟨"java/util/Iterator", "hasNext", "()Z"⟩, Cond.selects RJx35411 ⟨"java/util/Iterator", "hasNext", "()Z"⟩ yJx35411_hasNext_aae02, Cond.instanceMethod yJx35411_hasNext_aae02]
def wsX14_given_r2 : List Cond := [Cond.code yJx35411_hasNext_aae02 cJx35411_hasNext_aae02 1 (some .boolean), Cond.fieldLink RJx35411 25 "java/util/ArrayList$Itr" "cursor" "I", Cond.methodLink RX14 150 ⟨"java/util/Iterator", "next", "()Ljava/lang/Object;"⟩, Cond.selects RJx35411 ⟨"java/util/Iterator", "next", "()Ljava/lang/Object;"⟩ yJx35411_next_0502b, Cond.instanceMethod yJx35411_next_0502b, Cond.code yJx35411_next_0502b cJx35411_next_0502b 3 (some (.object "java/lang/Object")), Cond.fieldLink RJx35411 37 "java/util/ArrayList" "elementData" "[Ljava/lang/Object;", Cond.methodLink RJx35411 31 yJx35411_checkForComodification_da8c8, Cond.instanceMethod yJx35411_checkForComodification_da8c8, Cond.selects RJx35411 yJx35411_checkForComodification_da8c8 yJx35411_checkForComodification_da8c8, Cond.code yJx35411_checkForComodification_da8c8 cJx35411_checkForComodification_da8c8 1 none, Cond.methodLink RX14 177 yX12_gives, Cond.instanceMethod yX12_gives, Cond.selects RX12 yX12_gives yX12_gives, Cond.initialized RX12, Cond.code yX12_gives cX12_gives 3 (some .int), Cond.fieldLink RX12 33 "CuratorAquarumModel$Nozzle" "isShut" "Z", Cond.fieldLink RX12 27 "CuratorAquarumModel$Nozzle" "height" "I"]
def wsX14_given : List Cond := .code yX14_given cX14_given 7 (some .int) :: ((wsX14_given_r1 ++ wsX14_given_r2) ++ wsX140 ++ wsX120 ++ wsJx354110 ++ wsJx4a65c0)
def wsX14_fills_r1 : List Cond := [Cond.fieldLink RX14 10 "CuratorAquarumModel" "nodes" "Ljava/util/ArrayList;", Cond.classLink RX14 58 "CuratorAquarumModel$Node", Cond.classLink RX14 180 RJ0, Cond.fieldLink RX14 19 "CuratorAquarumModel" "nozzles" "Ljava/util/ArrayList;", Cond.classLink RX14 166 "CuratorAquarumModel$Nozzle", Cond.fieldLink RX14 29 "CuratorAquarumModel" "accounts" "[I", Cond.methodLink RX14 67 yJx4a65c_get_915e3, Cond.instanceMethod yJx4a65c_get_915e3, Cond.selects RJx4a65c yJx4a65c_get_915e3 yJx4a65c_get_915e3, Cond.initialized RJx4a65c, Cond.code yJx4a65c_get_915e3 cJx4a65c_get_915e3 2 (some (.object "java/lang/Object")), Cond.fieldLink RJx4a65c 48 "java/util/ArrayList" "size" "I", Cond.methodLink RJx4a65c 118 yJ15_checkIndex_7cf53, Cond.static yJ15_checkIndex_7cf53, Cond.initialized RJ15, Cond.code yJ15_checkIndex_7cf53 cJ15_checkIndex_7cf53 2 (some .int), Cond.methodLink RJ15 105 yJ3_checkIndex_8e157, Cond.static yJ3_checkIndex_8e157, Cond.initialized RJ3, Cond.code yJ3_checkIndex_8e157 cJ3_checkIndex_8e157 3 (some .int), Cond.methodLink RJx4a65c 123 yJx4a65c_elementData_915e3, Cond.instanceMethod yJx4a65c_elementData_915e3, Cond.selects RJx4a65c yJx4a65c_elementData_915e3 yJx4a65c_elementData_915e3, Cond.code yJx4a65c_elementData_915e3 cJx4a65c_elementData_915e3 2 (some (.object "java/lang/Object"))]
def wsX14_fills_r2 : List Cond := [Cond.fieldLink RJx4a65c 9 "java/util/ArrayList" "elementData" "[Ljava/lang/Object;", Cond.methodLink RX14 200 yJ0_charAt_5068e, Cond.instanceMethod yJ0_charAt_5068e, Cond.selects RJ0 yJ0_charAt_5068e yJ0_charAt_5068e, Cond.initialized RJ0, Cond.code yJ0_charAt_5068e cJ0_charAt_5068e 2 (some .char), Cond.fieldLink RJ0 9 "java/lang/String" "value" "[B", Cond.methodLink RJ0 492 yJ0_isLatin1_aae02, Cond.instanceMethod yJ0_isLatin1_aae02, Cond.selects RJ0 yJ0_isLatin1_aae02 yJ0_isLatin1_aae02, Cond.code yJ0_isLatin1_aae02 cJ0_isLatin1_aae02 1 (some .boolean), Cond.fieldLink RJ0 38 "java/lang/String" "COMPACT_STRINGS" "Z", Cond.fieldLink RJ0 15 "java/lang/String" "coder" "B", Cond.methodLink RJ0 495 yJ1_charAt_3b067, Cond.static yJ1_charAt_3b067, Cond.initialized RJ1, Cond.code yJ1_charAt_3b067 cJ1_charAt_3b067 2 (some .char), Cond.methodLink RJ1 9 yJ0_checkIndex_df160, Cond.static yJ0_checkIndex_df160, Cond.code yJ0_checkIndex_df160 cJ0_checkIndex_df160 2 none, Cond.fieldLink RJ0 1053 "jdk/internal/util/Preconditions" "SIOOBE_FORMATTER" "Ljava/util/function/BiFunction;", Cond.methodLink RJ0 1059 yJ3_checkIndex_8e157, Cond.methodLink RJ0 498 yJ2_charAt_3b067, Cond.static yJ2_charAt_3b067]
def wsX14_fills_r3 : List Cond := [Cond.initialized RJ2, Cond.code yJ2_charAt_3b067 cJ2_charAt_3b067 2 (some .char), Cond.methodLink RJ2 67 yJ2_checkIndex_2214a, Cond.static yJ2_checkIndex_2214a, Cond.code yJ2_checkIndex_2214a cJ2_checkIndex_2214a 2 none, Cond.methodLink RJ2 48 yJ2_length_9d52b, Cond.static yJ2_length_9d52b, Cond.code yJ2_length_9d52b cJ2_length_9d52b 1 (some .int), Cond.methodLink RJ2 414 yJ0_checkIndex_df160, Cond.methodLink RJ2 71 yJ2_getChar_3b067, Cond.static yJ2_getChar_3b067, Cond.code yJ2_getChar_3b067 cJ2_getChar_3b067 2 (some .char), Cond.fieldLink RJ2 44 "java/lang/StringUTF16" "$assertionsDisabled" "Z", Cond.fieldLink RJ2 59 "java/lang/StringUTF16" "HI_BYTE_SHIFT" "I", Cond.fieldLink RJ2 63 "java/lang/StringUTF16" "LO_BYTE_SHIFT" "I", Cond.methodLink RX14 204 yJ0_indexOf_0f7a4, Cond.instanceMethod yJ0_indexOf_0f7a4, Cond.selects RJ0 yJ0_indexOf_0f7a4 yJ0_indexOf_0f7a4, Cond.code yJ0_indexOf_0f7a4 cJ0_indexOf_0f7a4 2 (some .int), Cond.methodLink RJ0 633 yJ0_indexOf_7cf53, Cond.instanceMethod yJ0_indexOf_7cf53, Cond.selects RJ0 yJ0_indexOf_7cf53 yJ0_indexOf_7cf53, Cond.code yJ0_indexOf_7cf53 cJ0_indexOf_7cf53 3 (some .int), Cond.methodLink RJ0 505 yJ0_length_8abf5]
def wsX14_fills_r4 : List Cond := [Cond.instanceMethod yJ0_length_8abf5, Cond.selects RJ0 yJ0_length_8abf5 yJ0_length_8abf5, Cond.code yJ0_length_8abf5 cJ0_length_8abf5 1 (some .int), Cond.methodLink RJ0 335 yJ0_coder_7d493, Cond.instanceMethod yJ0_coder_7d493, Cond.selects RJ0 yJ0_coder_7d493 yJ0_coder_7d493, Cond.code yJ0_coder_7d493 cJ0_coder_7d493 1 (some .byte), Cond.methodLink RJ0 637 yJ1_indexOf_4cfef, Cond.static yJ1_indexOf_4cfef, Cond.code yJ1_indexOf_4cfef cJ1_indexOf_4cfef 4 (some .int), Cond.methodLink RJ1 92 Lib.Math.max.name, Cond.static Lib.Math.max.name, Cond.initialized "java/lang/Math", Cond.code Lib.Math.max.name Lib.Math.max.code 2 (some .int), Cond.methodLink RJ1 38 Lib.Math.min.name, Cond.static Lib.Math.min.name, Cond.code Lib.Math.min.name Lib.Math.min.code 2 (some .int), Cond.methodLink RJ1 88 yJ1_canEncode_9a6ad, Cond.static yJ1_canEncode_9a6ad, Cond.code yJ1_canEncode_9a6ad cJ1_canEncode_9a6ad 1 (some .boolean), Cond.methodLink RJ1 95 yJ1_indexOfChar_4cfef, Cond.static yJ1_indexOfChar_4cfef, Cond.code yJ1_indexOfChar_4cfef cJ1_indexOfChar_4cfef 6 (some .int), Cond.methodLink RJ0 640 yJ2_indexOf_4cfef]
def wsX14_fills_r5 : List Cond := [Cond.static yJ2_indexOf_4cfef, Cond.code yJ2_indexOf_4cfef cJ2_indexOf_4cfef 4 (some .int), Cond.methodLink RJ2 224 Lib.Math.max.name, Cond.methodLink RJ2 183 Lib.Math.min.name, Cond.constant RJ2 227 (65536), Cond.methodLink RJ2 228 yJ2_indexOfChar_4cfef, Cond.static yJ2_indexOfChar_4cfef, Cond.code yJ2_indexOfChar_4cfef cJ2_indexOfChar_4cfef 4 (some .int), Cond.methodLink RJ2 96 yJ2_checkBoundsBeginEnd_d044e, Cond.static yJ2_checkBoundsBeginEnd_d044e, Cond.code yJ2_checkBoundsBeginEnd_d044e cJ2_checkBoundsBeginEnd_d044e 3 none, Cond.methodLink RJ2 241 yJ0_checkBoundsBeginEnd_23922, Cond.static yJ0_checkBoundsBeginEnd_23922, Cond.code yJ0_checkBoundsBeginEnd_23922 cJ0_checkBoundsBeginEnd_23922 3 none, Cond.methodLink RJ0 1062 yJ3_checkFromToIndex_8c36e, Cond.static yJ3_checkFromToIndex_8c36e, Cond.code yJ3_checkFromToIndex_8c36e cJ3_checkFromToIndex_8c36e 4 (some .int), Cond.methodLink RJ2 244 yJ2_indexOfCharUnsafe_4cfef, Cond.static yJ2_indexOfCharUnsafe_4cfef, Cond.code yJ2_indexOfCharUnsafe_4cfef cJ2_indexOfCharUnsafe_4cfef 5 (some .int), Cond.methodLink RJ2 232 yJ2_indexOfSupplementary_4cfef, Cond.static yJ2_indexOfSupplementary_4cfef, Cond.code yJ2_indexOfSupplementary_4cfef cJ2_indexOfSupplementary_4cfef 7 (some .int), Cond.methodLink RJ2 164 yJ11_isValidCodePoint_9a6ad]
def wsX14_fills_r6 : List Cond := [Cond.static yJ11_isValidCodePoint_9a6ad, Cond.initialized RJ11, Cond.code yJ11_isValidCodePoint_9a6ad cJ11_isValidCodePoint_9a6ad 2 (some .boolean), Cond.methodLink RJ2 157 yJ11_highSurrogate_5068e, Cond.static yJ11_highSurrogate_5068e, Cond.code yJ11_highSurrogate_5068e cJ11_highSurrogate_5068e 1 (some .char), Cond.constant RJ11 110 (55232), Cond.methodLink RJ2 161 yJ11_lowSurrogate_5068e, Cond.static yJ11_lowSurrogate_5068e, Cond.code yJ11_lowSurrogate_5068e cJ11_lowSurrogate_5068e 1 (some .char), Cond.constant RJ11 76 (56320), Cond.methodLink RX14 208 yX14_given, Cond.instanceMethod yX14_given, Cond.selects RX14 yX14_given yX14_given, Cond.initialized RX14, Cond.code yX14_given cX14_given 7 (some .int), Cond.methodLink RX14 140 yJx4a65c_iterator_32c93, Cond.instanceMethod yJx4a65c_iterator_32c93, Cond.selects RJx4a65c yJx4a65c_iterator_32c93 yJx4a65c_iterator_32c93, Cond.code yJx4a65c_iterator_32c93 cJx4a65c_iterator_32c93 1 (some (.object "java/util/Iterator")), Cond.classLink RJx4a65c 267 RJx35411, Cond.instantiable RJx35411 4, Cond.initialized RJx35411, Cond.methodLink RJx4a65c 269 yJx35411_init_45d68]
def wsX14_fills_r7 : List Cond := [Cond.instanceMethod yJx35411_init_45d68, Cond.code yJx35411_init_45d68 cJx35411_init_45d68 2 none, Cond.fieldLink RJx35411 1 "java/util/ArrayList$Itr" "this$0" "Ljava/util/ArrayList;", Cond.methodLink RJx35411 7 objectInit, Cond.instanceMethod objectInit, Cond.code objectInit ⟨#[0xb1]⟩ 1 none, Cond.fieldLink RJx35411 13 "java/util/ArrayList$Itr" "lastRet" "I", Cond.fieldLink RJx35411 17 "java/util/ArrayList" "modCount" "I", Cond.sameField "java/util/ArrayList" "java/util/AbstractList" "modCount" "I", Cond.fieldLink RJx35411 22 "java/util/ArrayList$Itr" "expectedModCount" "I", Cond.methodLink RX14 144 ⟨"java/util/Iterator", "hasNext", "()Z"⟩, Cond.selects RJx35411 ⟨"java/util/Iterator", "hasNext", "()Z"⟩ yJx35411_hasNext_aae02, Cond.instanceMethod yJx35411_hasNext_aae02, Cond.code yJx35411_hasNext_aae02 cJx35411_hasNext_aae02 1 (some .boolean), Cond.fieldLink RJx35411 25 "java/util/ArrayList$Itr" "cursor" "I", Cond.methodLink RX14 150 ⟨"java/util/Iterator", "next", "()Ljava/lang/Object;"⟩, Cond.selects RJx35411 ⟨"java/util/Iterator", "next", "()Ljava/lang/Object;"⟩ yJx35411_next_0502b, Cond.instanceMethod yJx35411_next_0502b, Cond.code yJx35411_next_0502b cJx35411_next_0502b 3 (some (.object "java/lang/Object")), Cond.fieldLink RJx35411 37 "java/util/ArrayList" "elementData" "[Ljava/lang/Object;", Cond.methodLink RJx35411 31 yJx35411_checkForComodification_da8c8, Cond.instanceMethod yJx35411_checkForComodification_da8c8, Cond.selects RJx35411 yJx35411_checkForComodification_da8c8 yJx35411_checkForComodification_da8c8, Cond.code yJx35411_checkForComodification_da8c8 cJx35411_checkForComodification_da8c8 1 none]
def wsX14_fills_r8 : List Cond := [Cond.methodLink RX14 177 yX12_gives, Cond.instanceMethod yX12_gives, Cond.selects RX12 yX12_gives yX12_gives, Cond.initialized RX12, Cond.code yX12_gives cX12_gives 3 (some .int), Cond.fieldLink RX12 33 "CuratorAquarumModel$Nozzle" "isShut" "Z", Cond.fieldLink RX12 27 "CuratorAquarumModel$Nozzle" "height" "I"]
def wsX14_fills : List Cond := .code yX14_fills cX14_fills 11 none :: ((wsX14_fills_r1 ++ (wsX14_fills_r2 ++ (wsX14_fills_r3 ++ (wsX14_fills_r4 ++ (wsX14_fills_r5 ++ (wsX14_fills_r6 ++ (wsX14_fills_r7 ++ wsX14_fills_r8))))))) ++ wsX140 ++ wsX110 ++ wsX120 ++ wsJx4a65c0 ++ wsJ00 ++ wsJx354110)
set_option maxRecDepth 20000 in
theorem ggX14_given_Jx4a65c_iterator_32c93 : GoodIn wsX14_given wsJx4a65c_iterator_32c93 := goodIn_r _ [7, 8, 9, 10, 11, 12, 13, 14, 15, 16, 17, 18, 19, 20, 21, 65, 66, 67, 68, 69, 70, 71] (by decide +kernel) (by decide +kernel)
set_option maxRecDepth 20000 in
theorem gX14_given_Jx4a65c_iterator_32c93 : GoodIn wsX14_given (wsV RX14 140 RJx4a65c yJx4a65c_iterator_32c93 wsJx4a65c_iterator_32c93) := goodIn_app (goodIn_of _ (by decide +kernel)) ggX14_given_Jx4a65c_iterator_32c93
set_option maxRecDepth 20000 in
theorem ggX14_given_Jx35411_hasNext_aae02 : GoodIn wsX14_given wsJx35411_hasNext_aae02 := goodIn_r _ [25, 26, 14, 65, 66, 67, 68, 69, 70, 71] (by decide +kernel) (by decide +kernel)
set_option maxRecDepth 20000 in
theorem gX14_given_Jx35411_hasNext_aae02_f144Jx35411 : GoodIn wsX14_given (va_wsF RX14 144 RJx35411 ⟨"java/util/Iterator", "hasNext", "()Z"⟩ yJx35411_hasNext_aae02 wsJx35411_hasNext_aae02) := goodIn_app (goodIn_of _ (by decide +kernel)) ggX14_given_Jx35411_hasNext_aae02
theorem dX14_given_0 : decode cX14_given 0 = .ok (.iconst 0, 1) := by decide +kernel
theorem dX14_given_1 : decode cX14_given 1 = .ok (.istore 4, 2) := by decide +kernel
theorem dX14_given_3 : decode cX14_given 3 = .ok (.aload_n 0, 1) := by decide +kernel
theorem dX14_given_4 : decode cX14_given 4 = .ok (.getfield 19, 3) := by decide +kernel
theorem dX14_given_7 : decode cX14_given 7 = .ok (.invokevirtual 140, 3) := by decide +kernel
theorem dX14_given_10 : decode cX14_given 10 = .ok (.astore 5, 2) := by decide +kernel
theorem dX14_given_12 : decode cX14_given 12 = .ok (.aload 5, 2) := by decide +kernel
theorem dX14_given_14 : decode cX14_given 14 = .ok (.invokeinterface 144 1, 5) := by decide +kernel
theorem dX14_given_19 : decode cX14_given 19 = .ok (.ifCond .eq 56, 3) := by decide +kernel
theorem dX14_given_22 : decode cX14_given 22 = .ok (.aload 5, 2) := by decide +kernel
theorem dX14_given_24 : decode cX14_given 24 = .ok (.invokeinterface 150 1, 5) := by decide +kernel
theorem dX14_given_29 : decode cX14_given 29 = .ok (.checkcast 166, 3) := by decide +kernel
theorem dX14_given_32 : decode cX14_given 32 = .ok (.astore 6, 2) := by decide +kernel
theorem dX14_given_34 : decode cX14_given 34 = .ok (.iload 4, 2) := by decide +kernel
theorem dX14_given_36 : decode cX14_given 36 = .ok (.aload 6, 2) := by decide +kernel
theorem dX14_given_38 : decode cX14_given 38 = .ok (.getfield 168, 3) := by decide +kernel
theorem dX14_given_41 : decode cX14_given 41 = .ok (.iload_n 1, 1) := by decide +kernel
theorem dX14_given_42 : decode cX14_given 42 = .ok (.if_icmp .ne 26, 3) := by decide +kernel
theorem dX14_given_45 : decode cX14_given 45 = .ok (.aload 6, 2) := by decide +kernel
theorem dX14_given_47 : decode cX14_given 47 = .ok (.getfield 171, 3) := by decide +kernel
theorem dX14_given_50 : decode cX14_given 50 = .ok (.iload_n 2, 1) := by decide +kernel
theorem dX14_given_51 : decode cX14_given 51 = .ok (.if_icmp .ne 17, 3) := by decide +kernel
theorem dX14_given_54 : decode cX14_given 54 = .ok (.aload 6, 2) := by decide +kernel
theorem dX14_given_56 : decode cX14_given 56 = .ok (.aload 6, 2) := by decide +kernel
theorem dX14_given_58 : decode cX14_given 58 = .ok (.getfield 174, 3) := by decide +kernel
theorem dX14_given_61 : decode cX14_given 61 = .ok (.iload_n 3, 1) := by decide +kernel
theorem dX14_given_62 : decode cX14_given 62 = .ok (.invokevirtual 177, 3) := by decide +kernel
theorem dX14_given_65 : decode cX14_given 65 = .ok (.goto 4, 3) := by decide +kernel
theorem dX14_given_68 : decode cX14_given 68 = .ok (.iconst 0, 1) := by decide +kernel
theorem dX14_given_69 : decode cX14_given 69 = .ok (.iadd, 1) := by decide +kernel
theorem dX14_given_70 : decode cX14_given 70 = .ok (.istore 4, 2) := by decide +kernel
theorem dX14_given_72 : decode cX14_given 72 = .ok (.goto (-60), 3) := by decide +kernel
theorem dX14_given_75 : decode cX14_given 75 = .ok (.iload 4, 2) := by decide +kernel
theorem dX14_given_77 : decode cX14_given 77 = .ok (.ireturn, 1) := by decide +kernel
set_option maxRecDepth 20000 in
theorem ggX14_fills_X14_given : GoodIn wsX14_fills wsX14_given := goodIn_r _ [136, 4, 5, 137, 138, 139, 10, 140, 141, 142, 143, 144, 145, 146, 147, 148, 149, 150, 151, 152, 153, 154, 155, 156, 157, 158, 159, 160, 161, 162, 163, 164, 165, 166, 167, 168, 169, 170, 171, 172, 173, 174, 175, 176, 177, 178, 179, 180, 181, 182, 183, 184, 185, 186, 187, 188, 189, 202, 203, 204, 205, 206, 207, 208, 209, 217, 218, 219, 220, 210, 211, 212] (by decide +kernel) (by decide +kernel)
set_option maxRecDepth 20000 in
theorem gX14_fills_X14_given : GoodIn wsX14_fills (wsV RX14 208 RX14 yX14_given wsX14_given) := goodIn_app (goodIn_of _ (by decide +kernel)) ggX14_fills_X14_given
theorem dX14_fills_0 : decode cX14_fills 0 = .ok (.aload_n 0, 1) := by decide +kernel
theorem dX14_fills_1 : decode cX14_fills 1 = .ok (.getfield 10, 3) := by decide +kernel
theorem dX14_fills_4 : decode cX14_fills 4 = .ok (.iload_n 1, 1) := by decide +kernel
theorem dX14_fills_5 : decode cX14_fills 5 = .ok (.invokevirtual 67, 3) := by decide +kernel
theorem dX14_fills_8 : decode cX14_fills 8 = .ok (.checkcast 58, 3) := by decide +kernel
theorem dX14_fills_11 : decode cX14_fills 11 = .ok (.astore_n 2, 1) := by decide +kernel
theorem dX14_fills_12 : decode cX14_fills 12 = .ok (.bipush 6, 2) := by decide +kernel
theorem dX14_fills_14 : decode cX14_fills 14 = .ok (.anewarray 180, 3) := by decide +kernel
theorem dX14_fills_17 : decode cX14_fills 17 = .ok (.dup, 1) := by decide +kernel
theorem dX14_fills_18 : decode cX14_fills 18 = .ok (.iconst 0, 1) := by decide +kernel
theorem dX14_fills_19 : decode cX14_fills 19 = .ok (.ldc 182, 2) := by decide +kernel
theorem dX14_fills_21 : decode cX14_fills 21 = .ok (.aastore, 1) := by decide +kernel
theorem dX14_fills_22 : decode cX14_fills 22 = .ok (.dup, 1) := by decide +kernel
theorem dX14_fills_23 : decode cX14_fills 23 = .ok (.iconst 1, 1) := by decide +kernel
theorem dX14_fills_24 : decode cX14_fills 24 = .ok (.ldc 184, 2) := by decide +kernel
theorem dX14_fills_26 : decode cX14_fills 26 = .ok (.aastore, 1) := by decide +kernel
theorem dX14_fills_27 : decode cX14_fills 27 = .ok (.dup, 1) := by decide +kernel
theorem dX14_fills_28 : decode cX14_fills 28 = .ok (.iconst 2, 1) := by decide +kernel
theorem dX14_fills_29 : decode cX14_fills 29 = .ok (.ldc 186, 2) := by decide +kernel
theorem dX14_fills_31 : decode cX14_fills 31 = .ok (.aastore, 1) := by decide +kernel
theorem dX14_fills_32 : decode cX14_fills 32 = .ok (.dup, 1) := by decide +kernel
theorem dX14_fills_33 : decode cX14_fills 33 = .ok (.iconst 3, 1) := by decide +kernel
theorem dX14_fills_34 : decode cX14_fills 34 = .ok (.ldc 188, 2) := by decide +kernel
theorem dX14_fills_36 : decode cX14_fills 36 = .ok (.aastore, 1) := by decide +kernel
theorem dX14_fills_37 : decode cX14_fills 37 = .ok (.dup, 1) := by decide +kernel
theorem dX14_fills_38 : decode cX14_fills 38 = .ok (.iconst 4, 1) := by decide +kernel
theorem dX14_fills_39 : decode cX14_fills 39 = .ok (.ldc 190, 2) := by decide +kernel
theorem dX14_fills_41 : decode cX14_fills 41 = .ok (.aastore, 1) := by decide +kernel
theorem dX14_fills_42 : decode cX14_fills 42 = .ok (.dup, 1) := by decide +kernel
theorem dX14_fills_43 : decode cX14_fills 43 = .ok (.iconst 5, 1) := by decide +kernel
theorem dX14_fills_44 : decode cX14_fills 44 = .ok (.ldc 192, 2) := by decide +kernel
theorem dX14_fills_46 : decode cX14_fills 46 = .ok (.aastore, 1) := by decide +kernel
theorem dX14_fills_47 : decode cX14_fills 47 = .ok (.astore_n 3, 1) := by decide +kernel
theorem dX14_fills_48 : decode cX14_fills 48 = .ok (.aload_n 2, 1) := by decide +kernel
theorem dX14_fills_49 : decode cX14_fills 49 = .ok (.getfield 194, 3) := by decide +kernel
theorem dX14_fills_52 : decode cX14_fills 52 = .ok (.istore 4, 2) := by decide +kernel
theorem dX14_fills_54 : decode cX14_fills 54 = .ok (.iconst 0, 1) := by decide +kernel
theorem dX14_fills_55 : decode cX14_fills 55 = .ok (.istore 5, 2) := by decide +kernel
theorem dX14_fills_57 : decode cX14_fills 57 = .ok (.iload 5, 2) := by decide +kernel
theorem dX14_fills_59 : decode cX14_fills 59 = .ok (.iconst 3, 1) := by decide +kernel
theorem dX14_fills_60 : decode cX14_fills 60 = .ok (.if_icmp .ge 215, 3) := by decide +kernel
theorem dX14_fills_63 : decode cX14_fills 63 = .ok (.ldc 182, 2) := by decide +kernel
theorem dX14_fills_65 : decode cX14_fills 65 = .ok (.aload_n 3, 1) := by decide +kernel
theorem dX14_fills_66 : decode cX14_fills 66 = .ok (.aload_n 2, 1) := by decide +kernel
theorem dX14_fills_67 : decode cX14_fills 67 = .ok (.getfield 197, 3) := by decide +kernel
theorem dX14_fills_70 : decode cX14_fills 70 = .ok (.aaload, 1) := by decide +kernel
theorem dX14_fills_71 : decode cX14_fills 71 = .ok (.iload 5, 2) := by decide +kernel
theorem dX14_fills_73 : decode cX14_fills 73 = .ok (.invokevirtual 200, 3) := by decide +kernel
theorem dX14_fills_76 : decode cX14_fills 76 = .ok (.invokevirtual 204, 3) := by decide +kernel
theorem dX14_fills_79 : decode cX14_fills 79 = .ok (.istore 6, 2) := by decide +kernel
theorem dX14_fills_81 : decode cX14_fills 81 = .ok (.iconst 0, 1) := by decide +kernel
theorem dX14_fills_82 : decode cX14_fills 82 = .ok (.istore 7, 2) := by decide +kernel
theorem dX14_fills_84 : decode cX14_fills 84 = .ok (.iload 7, 2) := by decide +kernel
theorem dX14_fills_86 : decode cX14_fills 86 = .ok (.bipush 100, 2) := by decide +kernel
theorem dX14_fills_88 : decode cX14_fills 88 = .ok (.if_icmp .ge 25, 3) := by decide +kernel
theorem dX14_fills_91 : decode cX14_fills 91 = .ok (.aload_n 0, 1) := by decide +kernel
theorem dX14_fills_92 : decode cX14_fills 92 = .ok (.iload_n 1, 1) := by decide +kernel
theorem dX14_fills_93 : decode cX14_fills 93 = .ok (.iload 6, 2) := by decide +kernel
theorem dX14_fills_95 : decode cX14_fills 95 = .ok (.iload 7, 2) := by decide +kernel
theorem dX14_fills_97 : decode cX14_fills 97 = .ok (.iconst 1, 1) := by decide +kernel
theorem dX14_fills_98 : decode cX14_fills 98 = .ok (.iadd, 1) := by decide +kernel
theorem dX14_fills_99 : decode cX14_fills 99 = .ok (.invokevirtual 208, 3) := by decide +kernel
theorem dX14_fills_102 : decode cX14_fills 102 = .ok (.iload 4, 2) := by decide +kernel
theorem dX14_fills_104 : decode cX14_fills 104 = .ok (.if_icmp .gt 9, 3) := by decide +kernel
theorem dX14_fills_107 : decode cX14_fills 107 = .ok (.iinc 7 1, 3) := by decide +kernel
theorem dX14_fills_110 : decode cX14_fills 110 = .ok (.goto (-26), 3) := by decide +kernel
theorem dX14_fills_113 : decode cX14_fills 113 = .ok (.aload_n 2, 1) := by decide +kernel
theorem dX14_fills_114 : decode cX14_fills 114 = .ok (.getfield 212, 3) := by decide +kernel
theorem dX14_fills_117 : decode cX14_fills 117 = .ok (.iload 6, 2) := by decide +kernel
theorem dX14_fills_119 : decode cX14_fills 119 = .ok (.iload 7, 2) := by decide +kernel
theorem dX14_fills_121 : decode cX14_fills 121 = .ok (.iastore, 1) := by decide +kernel
theorem dX14_fills_122 : decode cX14_fills 122 = .ok (.iload 4, 2) := by decide +kernel
theorem dX14_fills_124 : decode cX14_fills 124 = .ok (.aload_n 0, 1) := by decide +kernel
theorem dX14_fills_125 : decode cX14_fills 125 = .ok (.iload_n 1, 1) := by decide +kernel
theorem dX14_fills_126 : decode cX14_fills 126 = .ok (.iload 6, 2) := by decide +kernel
theorem dX14_fills_128 : decode cX14_fills 128 = .ok (.iload 7, 2) := by decide +kernel
theorem dX14_fills_130 : decode cX14_fills 130 = .ok (.invokevirtual 208, 3) := by decide +kernel
theorem dX14_fills_133 : decode cX14_fills 133 = .ok (.isub, 1) := by decide +kernel
theorem dX14_fills_134 : decode cX14_fills 134 = .ok (.istore 4, 2) := by decide +kernel
theorem dX14_fills_136 : decode cX14_fills 136 = .ok (.aload_n 0, 1) := by decide +kernel
theorem dX14_fills_137 : decode cX14_fills 137 = .ok (.getfield 19, 3) := by decide +kernel
theorem dX14_fills_140 : decode cX14_fills 140 = .ok (.invokevirtual 140, 3) := by decide +kernel
theorem dX14_fills_143 : decode cX14_fills 143 = .ok (.astore 8, 2) := by decide +kernel
theorem dX14_fills_145 : decode cX14_fills 145 = .ok (.aload 8, 2) := by decide +kernel
theorem dX14_fills_147 : decode cX14_fills 147 = .ok (.invokeinterface 144 1, 5) := by decide +kernel
theorem dX14_fills_152 : decode cX14_fills 152 = .ok (.ifCond .eq 117, 3) := by decide +kernel
theorem dX14_fills_155 : decode cX14_fills 155 = .ok (.aload 8, 2) := by decide +kernel
theorem dX14_fills_157 : decode cX14_fills 157 = .ok (.invokeinterface 150 1, 5) := by decide +kernel
theorem dX14_fills_162 : decode cX14_fills 162 = .ok (.checkcast 166, 3) := by decide +kernel
theorem dX14_fills_165 : decode cX14_fills 165 = .ok (.astore 9, 2) := by decide +kernel
theorem dX14_fills_167 : decode cX14_fills 167 = .ok (.aload 9, 2) := by decide +kernel
theorem dX14_fills_169 : decode cX14_fills 169 = .ok (.getfield 168, 3) := by decide +kernel
theorem dX14_fills_172 : decode cX14_fills 172 = .ok (.iload_n 1, 1) := by decide +kernel
theorem dX14_fills_173 : decode cX14_fills 173 = .ok (.if_icmp .ne 17, 3) := by decide +kernel
theorem dX14_fills_176 : decode cX14_fills 176 = .ok (.aload 9, 2) := by decide +kernel
theorem dX14_fills_178 : decode cX14_fills 178 = .ok (.getfield 171, 3) := by decide +kernel
theorem dX14_fills_181 : decode cX14_fills 181 = .ok (.iload 6, 2) := by decide +kernel
theorem dX14_fills_183 : decode cX14_fills 183 = .ok (.if_icmp .ne 7, 3) := by decide +kernel
theorem dX14_fills_186 : decode cX14_fills 186 = .ok (.iconst 1, 1) := by decide +kernel
theorem dX14_fills_187 : decode cX14_fills 187 = .ok (.goto 4, 3) := by decide +kernel
theorem dX14_fills_190 : decode cX14_fills 190 = .ok (.iconst 0, 1) := by decide +kernel
theorem dX14_fills_191 : decode cX14_fills 191 = .ok (.istore 10, 2) := by decide +kernel
theorem dX14_fills_193 : decode cX14_fills 193 = .ok (.aload_n 0, 1) := by decide +kernel
theorem dX14_fills_194 : decode cX14_fills 194 = .ok (.getfield 29, 3) := by decide +kernel
theorem dX14_fills_197 : decode cX14_fills 197 = .ok (.iconst 1, 1) := by decide +kernel
theorem dX14_fills_198 : decode cX14_fills 198 = .ok (.dup2, 1) := by decide +kernel
theorem dX14_fills_199 : decode cX14_fills 199 = .ok (.iaload, 1) := by decide +kernel
theorem dX14_fills_200 : decode cX14_fills 200 = .ok (.iload 10, 2) := by decide +kernel
theorem dX14_fills_202 : decode cX14_fills 202 = .ok (.ifCond .eq 18, 3) := by decide +kernel
theorem dX14_fills_205 : decode cX14_fills 205 = .ok (.aload 9, 2) := by decide +kernel
theorem dX14_fills_207 : decode cX14_fills 207 = .ok (.aload 9, 2) := by decide +kernel
theorem dX14_fills_209 : decode cX14_fills 209 = .ok (.getfield 215, 3) := by decide +kernel
theorem dX14_fills_212 : decode cX14_fills 212 = .ok (.iload 7, 2) := by decide +kernel
theorem dX14_fills_214 : decode cX14_fills 214 = .ok (.invokevirtual 177, 3) := by decide +kernel
theorem dX14_fills_217 : decode cX14_fills 217 = .ok (.goto 4, 3) := by decide +kernel
theorem dX14_fills_220 : decode cX14_fills 220 = .ok (.iconst 0, 1) := by decide +kernel
theorem dX14_fills_221 : decode cX14_fills 221 = .ok (.iadd, 1) := by decide +kernel
theorem dX14_fills_222 : decode cX14_fills 222 = .ok (.iastore, 1) := by decide +kernel
theorem dX14_fills_223 : decode cX14_fills 223 = .ok (.aload_n 0, 1) := by decide +kernel
theorem dX14_fills_224 : decode cX14_fills 224 = .ok (.getfield 29, 3) := by decide +kernel
theorem dX14_fills_227 : decode cX14_fills 227 = .ok (.iconst 2, 1) := by decide +kernel
theorem dX14_fills_228 : decode cX14_fills 228 = .ok (.dup2, 1) := by decide +kernel
theorem dX14_fills_229 : decode cX14_fills 229 = .ok (.iaload, 1) := by decide +kernel
theorem dX14_fills_230 : decode cX14_fills 230 = .ok (.iload 10, 2) := by decide +kernel
theorem dX14_fills_232 : decode cX14_fills 232 = .ok (.ifCond .eq 31, 3) := by decide +kernel
theorem dX14_fills_235 : decode cX14_fills 235 = .ok (.aload 9, 2) := by decide +kernel
theorem dX14_fills_237 : decode cX14_fills 237 = .ok (.aload 9, 2) := by decide +kernel
theorem dX14_fills_239 : decode cX14_fills 239 = .ok (.getfield 174, 3) := by decide +kernel
theorem dX14_fills_242 : decode cX14_fills 242 = .ok (.iload 7, 2) := by decide +kernel
theorem dX14_fills_244 : decode cX14_fills 244 = .ok (.invokevirtual 177, 3) := by decide +kernel
theorem dX14_fills_247 : decode cX14_fills 247 = .ok (.aload 9, 2) := by decide +kernel
theorem dX14_fills_249 : decode cX14_fills 249 = .ok (.aload 9, 2) := by decide +kernel
theorem dX14_fills_251 : decode cX14_fills 251 = .ok (.getfield 215, 3) := by decide +kernel
theorem dX14_fills_254 : decode cX14_fills 254 = .ok (.iload 7, 2) := by decide +kernel
theorem dX14_fills_256 : decode cX14_fills 256 = .ok (.invokevirtual 177, 3) := by decide +kernel
theorem dX14_fills_259 : decode cX14_fills 259 = .ok (.isub, 1) := by decide +kernel
theorem dX14_fills_260 : decode cX14_fills 260 = .ok (.goto 4, 3) := by decide +kernel
theorem dX14_fills_263 : decode cX14_fills 263 = .ok (.iconst 0, 1) := by decide +kernel
theorem dX14_fills_264 : decode cX14_fills 264 = .ok (.iadd, 1) := by decide +kernel
theorem dX14_fills_265 : decode cX14_fills 265 = .ok (.iastore, 1) := by decide +kernel
theorem dX14_fills_266 : decode cX14_fills 266 = .ok (.goto (-121), 3) := by decide +kernel
theorem dX14_fills_269 : decode cX14_fills 269 = .ok (.iinc 5 1, 3) := by decide +kernel
theorem dX14_fills_272 : decode cX14_fills 272 = .ok (.goto (-215), 3) := by decide +kernel
theorem dX14_fills_275 : decode cX14_fills 275 = .ok (.aload_n 2, 1) := by decide +kernel
theorem dX14_fills_276 : decode cX14_fills 276 = .ok (.iload 4, 2) := by decide +kernel
theorem dX14_fills_278 : decode cX14_fills 278 = .ok (.putfield 218, 3) := by decide +kernel
theorem dX14_fills_281 : decode cX14_fills 281 = .ok (.aload_n 0, 1) := by decide +kernel
theorem dX14_fills_282 : decode cX14_fills 282 = .ok (.getfield 29, 3) := by decide +kernel
theorem dX14_fills_285 : decode cX14_fills 285 = .ok (.iconst 5, 1) := by decide +kernel
theorem dX14_fills_286 : decode cX14_fills 286 = .ok (.dup2, 1) := by decide +kernel
theorem dX14_fills_287 : decode cX14_fills 287 = .ok (.iaload, 1) := by decide +kernel
theorem dX14_fills_288 : decode cX14_fills 288 = .ok (.iload 4, 2) := by decide +kernel
theorem dX14_fills_290 : decode cX14_fills 290 = .ok (.iadd, 1) := by decide +kernel
theorem dX14_fills_291 : decode cX14_fills 291 = .ok (.iastore, 1) := by decide +kernel
theorem dX14_fills_292 : decode cX14_fills 292 = .ok (.return_, 1) := by decide +kernel
theorem dJx35411_init_45d68_0 : decode cJx35411_init_45d68 0 = .ok (.aload_n 0, 1) := by decide +kernel
theorem dJx35411_init_45d68_1 : decode cJx35411_init_45d68 1 = .ok (.aload_n 1, 1) := by decide +kernel
theorem dJx35411_init_45d68_2 : decode cJx35411_init_45d68 2 = .ok (.putfield 1, 3) := by decide +kernel
theorem dJx35411_init_45d68_5 : decode cJx35411_init_45d68 5 = .ok (.aload_n 0, 1) := by decide +kernel
theorem dJx35411_init_45d68_6 : decode cJx35411_init_45d68 6 = .ok (.invokespecial 7, 3) := by decide +kernel
theorem dJx35411_init_45d68_9 : decode cJx35411_init_45d68 9 = .ok (.aload_n 0, 1) := by decide +kernel
theorem dJx35411_init_45d68_10 : decode cJx35411_init_45d68 10 = .ok (.iconst (-1), 1) := by decide +kernel
theorem dJx35411_init_45d68_11 : decode cJx35411_init_45d68 11 = .ok (.putfield 13, 3) := by decide +kernel
theorem dJx35411_init_45d68_14 : decode cJx35411_init_45d68 14 = .ok (.aload_n 0, 1) := by decide +kernel
theorem dJx35411_init_45d68_15 : decode cJx35411_init_45d68 15 = .ok (.aload_n 0, 1) := by decide +kernel
theorem dJx35411_init_45d68_16 : decode cJx35411_init_45d68 16 = .ok (.getfield 1, 3) := by decide +kernel
theorem dJx35411_init_45d68_19 : decode cJx35411_init_45d68 19 = .ok (.getfield 17, 3) := by decide +kernel
theorem dJx35411_init_45d68_22 : decode cJx35411_init_45d68 22 = .ok (.putfield 22, 3) := by decide +kernel
theorem dJx35411_init_45d68_25 : decode cJx35411_init_45d68 25 = .ok (.return_, 1) := by decide +kernel
theorem dJx35411_hasNext_aae02_0 : decode cJx35411_hasNext_aae02 0 = .ok (.aload_n 0, 1) := by decide +kernel
theorem dJx35411_hasNext_aae02_1 : decode cJx35411_hasNext_aae02 1 = .ok (.getfield 25, 3) := by decide +kernel
theorem dJx35411_hasNext_aae02_4 : decode cJx35411_hasNext_aae02 4 = .ok (.aload_n 0, 1) := by decide +kernel
theorem dJx35411_hasNext_aae02_5 : decode cJx35411_hasNext_aae02 5 = .ok (.getfield 1, 3) := by decide +kernel
theorem dJx35411_hasNext_aae02_8 : decode cJx35411_hasNext_aae02 8 = .ok (.getfield 28, 3) := by decide +kernel
theorem dJx35411_hasNext_aae02_11 : decode cJx35411_hasNext_aae02 11 = .ok (.if_icmp .eq 7, 3) := by decide +kernel
theorem dJx35411_hasNext_aae02_14 : decode cJx35411_hasNext_aae02 14 = .ok (.iconst 1, 1) := by decide +kernel
theorem dJx35411_hasNext_aae02_15 : decode cJx35411_hasNext_aae02 15 = .ok (.goto 4, 3) := by decide +kernel
theorem dJx35411_hasNext_aae02_18 : decode cJx35411_hasNext_aae02 18 = .ok (.iconst 0, 1) := by decide +kernel
theorem dJx35411_hasNext_aae02_19 : decode cJx35411_hasNext_aae02 19 = .ok (.ireturn, 1) := by decide +kernel
theorem dJx4a65c_iterator_32c93_0 : decode cJx4a65c_iterator_32c93 0 = .ok (.new 267, 3) := by decide +kernel
theorem dJx4a65c_iterator_32c93_3 : decode cJx4a65c_iterator_32c93 3 = .ok (.dup, 1) := by decide +kernel
theorem dJx4a65c_iterator_32c93_4 : decode cJx4a65c_iterator_32c93 4 = .ok (.aload_n 0, 1) := by decide +kernel
theorem dJx4a65c_iterator_32c93_5 : decode cJx4a65c_iterator_32c93 5 = .ok (.invokespecial 269, 3) := by decide +kernel
theorem dJx4a65c_iterator_32c93_8 : decode cJx4a65c_iterator_32c93 8 = .ok (.areturn, 1) := by decide +kernel
end
section
/-! What the reference's given(node, chamber, level) makes at each call, over a list without nozzles: one cell more, an iterator. (REPORT.md, STATEMENT: the count.) -/
abbrev ig_cl : List vw_C := [(RJx35411, TJx35411, 4), (RJx4a65c, TJx4a65c, 3), (RX14, TX14, 14)]
theorem ig_itr_init : ∀ w ∈ wsJx354110, w ∈ wsJx35411_init_45d68 := by decide +kernel
theorem ig_al_init : ∀ w ∈ wsJx4a65c0, w ∈ wsJx35411_init_45d68 := by decide +kernel
theorem ig_itr_iter : ∀ w ∈ wsJx354110, w ∈ wsJx4a65c_iterator_32c93 := by decide +kernel
theorem ig_itr_has : ∀ w ∈ wsJx354110, w ∈ wsJx35411_hasNext_aae02 := by decide +kernel
theorem ig_al_has : ∀ w ∈ wsJx4a65c0, w ∈ wsJx35411_hasNext_aae02 := by decide +kernel
theorem ig_x14_given : ∀ w ∈ wsX140, w ∈ wsX14_given := by decide +kernel
set_option maxRecDepth 20000 in
theorem ig_g_iter_init : GoodIn wsJx4a65c_iterator_32c93 wsJx35411_init_45d68 := goodIn_sub (by decide +kernel) (by decide +kernel)
set_option maxHeartbeats 4000000 in
set_option maxRecDepth 100000 in
/-- Itr(list): the list and its count of changes are noted, nothing is made -/
theorem ig_Itr_init (l : Launch) (dC : Nat → ClassId) (dI : Nat → Nat → Nat) (h0 h1 : Nat) (sz : Nat) (mo n : Int32) (el : Value) : Met l yJx35411_init_45d68 wsJx35411_init_45d68 ({ frames := 1, cells := 0, slots := 0, locals := 12 }) (va_Pc [.ref h0, .ref h1] (fun U => U.heap.size = sz ∧ va_P (dC, dI) ig_cl [(h0, .inr (0, [.int 0, .int 0, .int 0, .null])), (h1, .inr (1, [.int mo, el, .int n]))] U.heap ∧ va_K (dC, dI) ig_cl [] U ∧ va_D (fun _ => True) [(h0, .inr (0, [.int 0, .int 0, .int 0, .null])), (h1, .inr (1, [.int mo, el, .int n]))])) (va_Qv (fun _ : Unit => True) (fun _ t => va_P (dC, dI) ig_cl [(h0, .inr (0, [.int 0, .int (-1), .int mo, .ref h1])), (h1, .inr (1, [.int mo, el, .int n]))] t.heap ∧ va_K (dC, dI) ig_cl [] t ∧ va_D (va_A [(h0, .inr (0, [.int 0, .int 0, .int 0, .null])), (h1, .inr (1, [.int mo, el, .int n]))] sz) [(h0, .inr (0, [.int 0, .int (-1), .int mo, .ref h1])), (h1, .inr (1, [.int mo, el, .int n]))]) (va_A [(h0, .inr (0, [.int 0, .int 0, .int 0, .null])), (h1, .inr (1, [.int mo, el, .int n]))] sz)) 0 0 (va_A [(h0, .inr (0, [.int 0, .int 0, .int 0, .null])), (h1, .inr (1, [.int mo, el, .int n]))] sz) := by
  refine Met.ofW (cc := cJx35411_init_45d68) (maxL := 2) (ret := none) (by decide) rfl ?_
  intro p e s m args below meth c s₁ B hml hv
  obtain ⟨rfl, hsz, hP, hK, hD0⟩ := hv
  have hx := B.exec
  have hb := B.bytes
  have hr := B.returns
  have hts := atoms_spec (ws := wsJx35411_init_45d68) B.pre
  have hown : s.vm.findClass RJx35411 = some m.cls := findClass_of_methodNamed B.named
  have hlocks := B.notSynchronized
  have hin : meth.name = "<init>" := (name_of_methodNamed B.named B.method).1
  subst hsz
  have hD := hD0.self (sz := s.heap.size)
  generalize hAe : va_A [(h0, .inr (0, [.int 0, .int 0, .int 0, .null])), (h1, .inr (1, [.int mo, el, .int n]))] s.heap.size = A at hD ⊢
  have hA : ∀ q : Nat, s.heap.size ≤ q → A q := fun q h => by rw [← hAe]; exact Or.inr h
  have hS : va_S A s.heap s.heap [] := va_S.rf
  have hl := lv_entry ([.ref h0, .ref h1]) (n := 2) (Nat.le_of_ble_eq_true rfl)
  rw [lg_entry_eq]
  generalize (lg_sl ([.ref h0, .ref h1]) ++ List.replicate (2 - (lg_sl ([.ref h0, .ref h1])).length) Slot.unset).toArray = ls at hl ⊢
  have hl : lv_has ls 2 [(0, .ref h0), (1, .ref h1)] := hl
  refine lv_aload_n hx hb dJx35411_init_45d68_0 rfl (lv_at hl 0 rfl) ?_
  refine lv_aload_n hx hb dJx35411_init_45d68_1 rfl (lv_at hl 1 rfl) ?_
  refine va_putF (D := (dC, dI)) (ci := 0) (v := .ref h1) (ty := .object "java/util/ArrayList") (C := RJx35411) (T := TJx35411) (N := 4) hx hb hts ig_itr_init tyJx35411 tyJx35411_ok nmJx35411 hown hK hP hD hS 0 rfl rfl 3 (by decide) (hts (.fieldLink RJx35411 1 "java/util/ArrayList$Itr" "this$0" "Ljava/util/ArrayList;") (by decide +kernel)) (fun _ h9 => h9) rfl hin rfl (by decide +kernel) rfl rfl (Nat.le_of_ble_eq_true rfl) dJx35411_init_45d68_2 (fun H locs hP hD hS => ?_)
  have hP : va_P (dC, dI) ig_cl [(h0, .inr (0, [.int 0, .int 0, .int 0, .ref h1])), (h1, .inr (1, [.int mo, el, .int n]))] H := hP
  have hD : va_D A [(h0, .inr (0, [.int 0, .int 0, .int 0, .ref h1])), (h1, .inr (1, [.int mo, el, .int n]))] := hD
  refine lv_aload_n hx hb dJx35411_init_45d68_5 rfl (lv_at hl 0 rfl) ?_
  refine W.objInit hx hb hown (hts (.methodLink RJx35411 7 objectInit) (by decide +kernel)) (hts (.instanceMethod objectInit) (by decide +kernel)) (hts _ (List.mem_cons_of_mem _ (List.mem_append_left _ (List.mem_append_left _ (List.mem_of_getElem? (i := 3) rfl))))) rfl (by rw [hml]; exact hl.1) rfl dJx35411_init_45d68_6 (Nat.le_of_ble_eq_true rfl) (Nat.le_of_ble_eq_true rfl) ?_
  refine W.eq (g2 := F0 m 9 ls []) rfl ?_
  refine lv_aload_n hx hb dJx35411_init_45d68_9 rfl (lv_at hl 0 rfl) ?_
  refine lv_iconst (v := -1) hx hb dJx35411_init_45d68_10 (by decide) ?_
  refine va_put (D := (dC, dI)) (ci := 0) (v := .int (-1)) (ty := .int) (C := RJx35411) (T := TJx35411) (N := 4) hx hb hts ig_itr_init tyJx35411 tyJx35411_ok nmJx35411 hown hK hP hD hS 0 rfl rfl 1 (by decide) (hts (.fieldLink RJx35411 13 "java/util/ArrayList$Itr" "lastRet" "I") (by decide +kernel)) (fun _ h9 => h9) rfl (by decide +kernel) rfl rfl (Nat.le_of_ble_eq_true rfl) dJx35411_init_45d68_11 (fun H locs hP hD hS => ?_)
  have hP : va_P (dC, dI) ig_cl [(h0, .inr (0, [.int 0, .int (-1), .int 0, .ref h1])), (h1, .inr (1, [.int mo, el, .int n]))] H := hP
  have hD : va_D A [(h0, .inr (0, [.int 0, .int (-1), .int 0, .ref h1])), (h1, .inr (1, [.int mo, el, .int n]))] := hD
  refine lv_aload_n hx hb dJx35411_init_45d68_14 rfl (lv_at hl 0 rfl) ?_
  refine lv_aload_n hx hb dJx35411_init_45d68_15 rfl (lv_at hl 0 rfl) ?_
  refine va_get (D := (dC, dI)) (ci := 0) (v := .ref h1) (C := RJx35411) (T := TJx35411) (N := 4) hx hb hts ig_itr_init hown hK hP 0 rfl rfl 3 (by decide) (hts (.fieldLink RJx35411 1 "java/util/ArrayList$Itr" "this$0" "Ljava/util/ArrayList;") (by decide +kernel)) (fun _ h9 => h9) rfl dJx35411_init_45d68_16 ?_
  refine va_get (D := (dC, dI)) (ci := 1) (v := .int mo) (C := RJx4a65c) (T := TJx4a65c) (N := 3) hx hb hts ig_al_init hown hK hP 1 rfl rfl 0 (by decide) (hts (.fieldLink RJx35411 17 "java/util/ArrayList" "modCount" "I") (by decide +kernel)) (fun x9 h9 => u_same (hts (.sameField "java/util/ArrayList" "java/util/AbstractList" "modCount" "I") (by decide +kernel)) x9 h9) rfl dJx35411_init_45d68_19 ?_
  refine va_put (D := (dC, dI)) (ci := 0) (v := .int mo) (ty := .int) (C := RJx35411) (T := TJx35411) (N := 4) hx hb hts ig_itr_init tyJx35411 tyJx35411_ok nmJx35411 hown hK hP hD hS 0 rfl rfl 2 (by decide) (hts (.fieldLink RJx35411 22 "java/util/ArrayList$Itr" "expectedModCount" "I") (by decide +kernel)) (fun _ h9 => h9) rfl (by decide +kernel) rfl rfl (Nat.le_of_ble_eq_true rfl) dJx35411_init_45d68_22 (fun H locs hP hD hS => ?_)
  have hP : va_P (dC, dI) ig_cl [(h0, .inr (0, [.int 0, .int (-1), .int mo, .ref h1])), (h1, .inr (1, [.int mo, el, .int n]))] H := hP
  have hD : va_D A [(h0, .inr (0, [.int 0, .int (-1), .int mo, .ref h1])), (h1, .inr (1, [.int mo, el, .int n]))] := hD
  exact W.vret hx hb hr (fun t ht hW => ⟨⟨(), rfl, trivial, by rw [ht]; exact hP, va_K.moved hW.alike hK, hD⟩, hS.F ht⟩) hS.2.2 dJx35411_init_45d68_25
set_option maxHeartbeats 4000000 in
set_option maxRecDepth 100000 in
/-- ArrayList.iterator(): one new cell of four slots -/
theorem ig_iterator (l : Launch) (dC : Nat → ClassId) (dI : Nat → Nat → Nat) (h1 : Nat) (sz : Nat) (mo n : Int32) (el : Value) : Met l yJx4a65c_iterator_32c93 wsJx4a65c_iterator_32c93 ({ frames := 2, cells := 1, slots := 4, locals := 33 }) (va_Pc [.ref h1] (fun U => U.heap.size = sz ∧ va_P (dC, dI) ig_cl [(h1, .inr (1, [.int mo, el, .int n]))] U.heap ∧ va_K (dC, dI) ig_cl [] U ∧ va_D (fun _ => True) [(h1, .inr (1, [.int mo, el, .int n]))])) (va_Qr (fun _ : Unit => True) (fun _ q t => va_P (dC, dI) ig_cl [(q, .inr (0, [.int 0, .int (-1), .int mo, .ref h1])), (h1, .inr (1, [.int mo, el, .int n]))] t.heap ∧ va_K (dC, dI) ig_cl [] t ∧ va_D (va_A [(h1, .inr (1, [.int mo, el, .int n]))] sz) [(q, .inr (0, [.int 0, .int (-1), .int mo, .ref h1])), (h1, .inr (1, [.int mo, el, .int n]))]) (va_A [(h1, .inr (1, [.int mo, el, .int n]))] sz)) 1 4 (va_A [(h1, .inr (1, [.int mo, el, .int n]))] sz) := by
  refine Met.ofW (cc := cJx4a65c_iterator_32c93) (maxL := 1) (ret := some (.object "java/util/Iterator")) (by decide) rfl ?_
  intro p e s m args below meth c s₁ B hml hv
  obtain ⟨rfl, hsz, hP, hK, hD0⟩ := hv
  have hx := B.exec
  have hb := B.bytes
  have hr := B.returns
  have hts := atoms_spec (ws := wsJx4a65c_iterator_32c93) B.pre
  have hown : s.vm.findClass RJx4a65c = some m.cls := findClass_of_methodNamed B.named
  have hlocks := B.notSynchronized
  subst hsz
  have hD := hD0.self (sz := s.heap.size)
  generalize hAe : va_A [(h1, .inr (1, [.int mo, el, .int n]))] s.heap.size = A at hD ⊢
  have hA : ∀ q : Nat, s.heap.size ≤ q → A q := fun q h => by rw [← hAe]; exact Or.inr h
  have hS : va_S A s.heap s.heap [] := va_S.rf
  have hl := lv_entry ([.ref h1]) (n := 1) (Nat.le_of_ble_eq_true rfl)
  rw [lg_entry_eq]
  generalize (lg_sl ([.ref h1]) ++ List.replicate (1 - (lg_sl ([.ref h1])).length) Slot.unset).toArray = ls at hl ⊢
  have hl : lv_has ls 1 [(0, .ref h1)] := hl
  have h_1 : 0 + 1 ≤ 1 := by decide
  have h_2 : 0 + 4 ≤ 4 := by decide
  refine va_new (ci := 0) (fs := [.int 0, .int 0, .int 0, .null]) (C := RJx35411) (T := TJx35411) (N := 4) hx hb hts ig_itr_iter tyJx35411 tyJx35411_ok hown (hts (.classLink RJx4a65c 267 RJx35411) (by decide +kernel)) (hts (.instantiable RJx35411 4) (by decide +kernel)) (hts (.initialized RJx35411) (by decide +kernel)) hK hP hD hS hA rfl (fun j hj => by rcases (show j = 0 ∨ j = 1 ∨ j = 2 ∨ j = 3 by omega) with rfl | rfl | rfl | rfl <;> rfl) h_1 h_2 dJx4a65c_iterator_32c93_0 (fun q H hP hD hS => ?_)
  have hP : va_P (dC, dI) ig_cl [(h1, .inr (1, [.int mo, el, .int n])), (q, .inr (0, [.int 0, .int 0, .int 0, .null]))] H := hP
  have hD : va_D A [(h1, .inr (1, [.int mo, el, .int n])), (q, .inr (0, [.int 0, .int 0, .int 0, .null]))] := hD
  refine W.widen (k := 1) (n := 4) (by omega) (by omega) ?_
  refine lv_dup hx hb dJx4a65c_iterator_32c93_3 rfl ?_
  refine lv_aload_n hx hb dJx4a65c_iterator_32c93_4 rfl (lv_at hl 0 rfl) ?_
  have hPc := hP.sub (ws' := [(q, .inr (0, [.int 0, .int 0, .int 0, .null])), (h1, .inr (1, [.int mo, el, .int n]))]) [1, 0] rfl
  have hDc := hD.sub (ws' := [(q, .inr (0, [.int 0, .int 0, .int 0, .null])), (h1, .inr (1, [.int mo, el, .int n]))]) [1, 0] (by decide) rfl
  have hKc := hK.sub (tys' := []) [] rfl
  have hFc := va_free (wc := [(q, .inr (0, [.int 0, .int 0, .int 0, .null])), (h1, .inr (1, [.int mo, el, .int n]))]) hD hS hA [1, 0] rfl
  refine va_callv (va_runI (As := [.ref h1]) (rest := [.ref q]) ⟨hx, hb, hml, hown, hts⟩ (ig_Itr_init l dC dI q h1 H.size mo n el) (cwI 1 hts ig_g_iter_init rfl rfl rfl (hts (.initialized RJx35411) (by decide +kernel)) (hts (.methodLink RJx4a65c 269 yJx35411_init_45d68) (by decide +kernel)) (hts (.instanceMethod yJx35411_init_45d68) (by decide +kernel)) rfl (by decide +kernel) ⟨Nat.le_of_ble_eq_true rfl, Nat.le_of_ble_eq_true rfl⟩) ⟨fun a U g mk q => by obtain ⟨q0, q1, qP, qK, qD⟩ := q; exact ⟨q0, q1, qP, va_K.moved (u := U) (U := U.calling g mk a) (Vm.Alike.refl U.vm) qK, qD⟩, fun U hU hW => ⟨rfl, by rw [hU], by rw [hU]; exact hPc, va_K.moved hW.alike hKc, hDc.weaken (fun _ _ _ _ => trivial)⟩⟩ rfl rfl hl.1 rfl (lv_room (Nat.le_of_ble_eq_true rfl)) dJx4a65c_iterator_32c93_5 ⟨Nat.le_refl 1, Nat.le_refl 4⟩) hS (fun q _ h => hFc q h) hFc (fun u t H1 locs ht hvm hw hB hz1 hk1 hS => ?_)
  obtain ⟨hP1, hK1, hD1⟩ := hB
  rw [ht] at hP1
  have hK1 := va_K.moved hvm.symm hK1
  obtain ⟨hP, hD⟩ := va_join (wr := []) (w1 := [(q, .inr (0, [.int 0, .int (-1), .int mo, .ref h1])), (h1, .inr (1, [.int mo, el, .int n]))]) hP hD [1, 0] [] rfl rfl (by decide) (by decide) hk1 hFc hP1 hD1
  have hP : va_P (dC, dI) ig_cl [(q, .inr (0, [.int 0, .int (-1), .int mo, .ref h1])), (h1, .inr (1, [.int mo, el, .int n]))] H1 := hP
  have hD : va_D A [(q, .inr (0, [.int 0, .int (-1), .int mo, .ref h1])), (h1, .inr (1, [.int mo, el, .int n]))] := hD
  exact W.aret hx hb hr (Or.inl ⟨_, rfl⟩) (Or.inr ⟨q, rfl⟩) (fun t ht hW => ⟨⟨(), q, rfl, trivial, by rw [ht]; exact hP, va_K.moved hW.alike hK, hD⟩, hS.F ht⟩) hS.2.2 dJx4a65c_iterator_32c93_8
abbrev ig_N : Cond := .fieldLinkNest RJx35411 28 "java/util/ArrayList" "size" "I" "java/util/ArrayList"
set_option maxHeartbeats 4000000 in
set_option maxRecDepth 100000 in
/-- Itr.hasNext(): whether the place isn't the size; nothing is made -/
theorem ig_hasNextM (l : Launch) (dC : Nat → ClassId) (dI : Nat → Nat → Nat) (h0 h1 : Nat) (sz : Nat) (cu la mo n em : Int32) (el : Value) : Met l yJx35411_hasNext_aae02 wsJx35411_hasNext_aae02 ({ frames := 0, cells := 0, slots := 0, locals := 0 }) (va_Pc [.ref h0] (fun U => U.heap.size = sz ∧ va_P (dC, dI) ig_cl [(h0, .inr (0, [.int cu, .int la, .int em, .ref h1])), (h1, .inr (1, [.int mo, el, .int n]))] U.heap ∧ va_K (dC, dI) ig_cl [] U ∧ va_D (fun _ => True) [(h0, .inr (0, [.int cu, .int la, .int em, .ref h1])), (h1, .inr (1, [.int mo, el, .int n]))] ∧ va_Nw ig_N U)) (va_Qi (fun (r : Int32) (_ : Unit) => r = if cu = n then 0 else 1) (fun _ t => va_P (dC, dI) ig_cl [(h0, .inr (0, [.int cu, .int la, .int em, .ref h1])), (h1, .inr (1, [.int mo, el, .int n]))] t.heap ∧ va_K (dC, dI) ig_cl [] t ∧ va_D (va_A [(h0, .inr (0, [.int cu, .int la, .int em, .ref h1])), (h1, .inr (1, [.int mo, el, .int n]))] sz) [(h0, .inr (0, [.int cu, .int la, .int em, .ref h1])), (h1, .inr (1, [.int mo, el, .int n]))]) (va_A [(h0, .inr (0, [.int cu, .int la, .int em, .ref h1])), (h1, .inr (1, [.int mo, el, .int n]))] sz)) 0 0 (va_A [(h0, .inr (0, [.int cu, .int la, .int em, .ref h1])), (h1, .inr (1, [.int mo, el, .int n]))] sz) := by
  refine Met.ofW (cc := cJx35411_hasNext_aae02) (maxL := 1) (ret := some .boolean) (by decide) rfl ?_
  intro p e s m args below meth c s₁ B hml hv
  obtain ⟨rfl, hsz, hP, hK, hD0, hN⟩ := hv
  have hx := B.exec
  have hb := B.bytes
  have hr := B.returns
  have hts := atoms_spec (ws := wsJx35411_hasNext_aae02) B.pre
  have hown : s.vm.findClass RJx35411 = some m.cls := findClass_of_methodNamed B.named
  have hlocks := B.notSynchronized
  subst hsz
  have hD := hD0.self (sz := s.heap.size)
  generalize hAe : va_A [(h0, .inr (0, [.int cu, .int la, .int em, .ref h1])), (h1, .inr (1, [.int mo, el, .int n]))] s.heap.size = A at hD ⊢
  have hA : ∀ q : Nat, s.heap.size ≤ q → A q := fun q h => by rw [← hAe]; exact Or.inr h
  have hS : va_S A s.heap s.heap [] := va_S.rf
  have hl := lv_entry ([.ref h0]) (n := 1) (Nat.le_of_ble_eq_true rfl)
  rw [lg_entry_eq]
  generalize (lg_sl ([.ref h0]) ++ List.replicate (1 - (lg_sl ([.ref h0])).length) Slot.unset).toArray = ls at hl ⊢
  have hl : lv_has ls 1 [(0, .ref h0)] := hl
  refine lv_aload_n hx hb dJx35411_hasNext_aae02_0 rfl (lv_at hl 0 rfl) ?_
  refine va_get (D := (dC, dI)) (ci := 0) (v := .int cu) (C := RJx35411) (T := TJx35411) (N := 4) hx hb hts ig_itr_has hown hK hP 0 rfl rfl 0 (by decide) (hts (.fieldLink RJx35411 25 "java/util/ArrayList$Itr" "cursor" "I") (by decide +kernel)) (fun _ h9 => h9) rfl dJx35411_hasNext_aae02_1 ?_
  refine lv_aload_n hx hb dJx35411_hasNext_aae02_4 rfl (lv_at hl 0 rfl) ?_
  refine va_get (D := (dC, dI)) (ci := 0) (v := .ref h1) (C := RJx35411) (T := TJx35411) (N := 4) hx hb hts ig_itr_has hown hK hP 0 rfl rfl 3 (by decide) (hts (.fieldLink RJx35411 1 "java/util/ArrayList$Itr" "this$0" "Ljava/util/ArrayList;") (by decide +kernel)) (fun _ h9 => h9) rfl dJx35411_hasNext_aae02_5 ?_
  refine va_getN (D := (dC, dI)) (ci := 1) (v := .int n) (C := RJx4a65c) (T := TJx4a65c) (N := 3) hx hb hts ig_al_has hown hK hP 1 rfl rfl 2 (by decide) (va_Nw.use (w := ig_N) rfl hN) (fun _ h9 => h9) rfl dJx35411_hasNext_aae02_8 ?_
  refine lv_icmp_eq (tgt := 18) hx hb dJx35411_hasNext_aae02_11 (by decide) (fun c1 => ?_) (fun c1 => ?_)
  · refine lv_iconst (v := 0) hx hb dJx35411_hasNext_aae02_18 (by decide) ?_
    exact W.zret (v := 0) hx hb hr (by decide) (fun t ht hW => ⟨⟨0, (), rfl, by rw [if_pos c1], by rw [ht]; exact hP, va_K.moved hW.alike hK, hD⟩, hS.F ht⟩) hS.2.2 dJx35411_hasNext_aae02_19
  · refine lv_iconst (v := 1) hx hb dJx35411_hasNext_aae02_14 (by decide) ?_
    refine lv_goto (tgt := 19) hx hb dJx35411_hasNext_aae02_15 (by decide) ?_
    exact W.zret (v := 1) hx hb hr (by decide) (fun t ht hW => ⟨⟨1, (), rfl, by rw [if_neg c1], by rw [ht]; exact hP, va_K.moved hW.alike hK, hD⟩, hS.F ht⟩) hS.2.2 dJx35411_hasNext_aae02_19
abbrev ig_x : MethodName := ⟨"java/util/Iterator", "hasNext", "()Z"⟩
/-- the reference's cell, its list of nozzles at h1 -/
abbrev ig_model (h1 : Nat) (a0 a1 a3 a4 a5 a6 : Value) (b7 b8 b9 b10 b11 b12 b13 : Int32) : List Value := [a0, a1, .ref h1, a3, a4, a5, a6, .int b7, .int b8, .int b9, .int b10, .int b11, .int b12, .int b13]
set_option maxHeartbeats 4000000 in
set_option maxRecDepth 100000 in
/-- given(node, chamber, level) of the reference, over a list without nozzles: it answers 0, AND THE HEAP IS LONGER THAN BEFORE: by one cell, not more (mc = 1) and not less -/
theorem ig_given (l : Launch) (dC : Nat → ClassId) (dI : Nat → Nat → Nat) (h0 h1 : Nat) (sz : Nat) (mo : Int32) (el : Value) (p1 p2 p3 : Int32) (a0 a1 a3 a4 a5 a6 : Value) (b7 b8 b9 b10 b11 b12 b13 : Int32) : Met l yX14_given wsX14_given ({ frames := 4, cells := 1, slots := 4, locals := 60 }) (va_Pc [.ref h0, .int p1, .int p2, .int p3] (fun U => U.heap.size = sz ∧ va_P (dC, dI) ig_cl [(h0, .inr (2, ig_model h1 a0 a1 a3 a4 a5 a6 b7 b8 b9 b10 b11 b12 b13)), (h1, .inr (1, [.int mo, el, .int 0]))] U.heap ∧ va_K (dC, dI) ig_cl [] U ∧ va_D (fun _ => True) [(h0, .inr (2, ig_model h1 a0 a1 a3 a4 a5 a6 b7 b8 b9 b10 b11 b12 b13)), (h1, .inr (1, [.int mo, el, .int 0]))] ∧ va_Nw ig_N U ∧ va_Fw RJx35411 ig_x yJx35411_hasNext_aae02 U)) (va_Qi (fun (r : Int32) (_ : Unit) => r = 0) (fun _ t => sz + 1 ≤ t.heap.size ∧ va_P (dC, dI) ig_cl [(h0, .inr (2, ig_model h1 a0 a1 a3 a4 a5 a6 b7 b8 b9 b10 b11 b12 b13)), (h1, .inr (1, [.int mo, el, .int 0]))] t.heap ∧ va_K (dC, dI) ig_cl [] t) (va_A [(h0, .inr (2, ig_model h1 a0 a1 a3 a4 a5 a6 b7 b8 b9 b10 b11 b12 b13)), (h1, .inr (1, [.int mo, el, .int 0]))] sz)) 1 4 (va_A [(h0, .inr (2, ig_model h1 a0 a1 a3 a4 a5 a6 b7 b8 b9 b10 b11 b12 b13)), (h1, .inr (1, [.int mo, el, .int 0]))] sz) := by
  refine Met.ofW (cc := cX14_given) (maxL := 7) (ret := some .int) (by decide) rfl ?_
  intro p e s m args below meth c s₁ B hml hv
  obtain ⟨rfl, hsz, hP, hK, hD0, hN, hF⟩ := hv
  have hx := B.exec
  have hb := B.bytes
  have hr := B.returns
  have hts := atoms_spec (ws := wsX14_given) B.pre
  have hown : s.vm.findClass RX14 = some m.cls := findClass_of_methodNamed B.named
  have hlocks := B.notSynchronized
  subst hsz
  have hD := hD0.self (sz := s.heap.size)
  generalize hm : ig_model h1 a0 a1 a3 a4 a5 a6 b7 b8 b9 b10 b11 b12 b13 = fm at hP hD ⊢
  have hm2 : fm[2]? = some (.ref h1) := by rw [← hm]; rfl
  generalize hAe : va_A [(h0, .inr (2, fm)), (h1, .inr (1, [.int mo, el, .int 0]))] s.heap.size = A at hD ⊢
  have hA : ∀ q : Nat, s.heap.size ≤ q → A q := fun q h => by rw [← hAe]; exact Or.inr h
  have hS : va_S A s.heap s.heap [] := va_S.rf
  have hl := lv_entry ([.ref h0, .int p1, .int p2, .int p3]) (n := 7) (Nat.le_of_ble_eq_true rfl)
  rw [lg_entry_eq]
  generalize (lg_sl ([.ref h0, .int p1, .int p2, .int p3]) ++ List.replicate (7 - (lg_sl ([.ref h0, .int p1, .int p2, .int p3])).length) Slot.unset).toArray = ls at hl ⊢
  have hl : lv_has ls 7 [(0, .ref h0), (1, .int p1), (2, .int p2), (3, .int p3)] := hl
  refine lv_iconst (v := 0) hx hb dX14_given_0 (by decide) ?_
  refine lv_istore (lv' := [(4, .int 0), (0, .ref h0), (1, .int p1), (2, .int p2), (3, .int p3)]) hx hb dX14_given_1 hl (by decide) rfl (fun ls hl => ?_)
  refine lv_aload_n hx hb dX14_given_3 rfl (lv_at hl 1 rfl) ?_
  refine va_get (D := (dC, dI)) (ci := 2) (v := .ref h1) (C := RX14) (T := TX14) (N := 14) hx hb hts ig_x14_given hown hK hP 0 rfl rfl 2 (by decide) (hts (.fieldLink RX14 19 "CuratorAquarumModel" "nozzles" "Ljava/util/ArrayList;") (by decide +kernel)) (fun _ h9 => h9) hm2 dX14_given_4 ?_
  have hPc := hP.sub (ws' := [(h1, .inr (1, [.int mo, el, .int 0]))]) [1] rfl
  have hDc := hD.sub (ws' := [(h1, .inr (1, [.int mo, el, .int 0]))]) [1] (by decide) rfl
  have hKc := hK.sub (tys' := []) [] rfl
  have hFc := va_free (wc := [(h1, .inr (1, [.int mo, el, .int 0]))]) hD hS hA [1] rfl
  refine va_callr (va_runV (As := []) (rest := []) ⟨hx, hb, hml, hown, hts⟩ (ig_iterator l dC dI h1 s.heap.size mo 0 el) (cwV 0 hts gX14_given_Jx4a65c_iterator_32c93 rfl rfl rfl (by decide +kernel) ⟨Nat.le_of_ble_eq_true rfl, Nat.le_of_ble_eq_true rfl⟩) ⟨fun a U g mk q => by obtain ⟨q0, q1, qP, qK, qD⟩ := q; exact ⟨q0, q1, qP, va_K.moved (u := U) (U := U.calling g mk a) (Vm.Alike.refl U.vm) qK, qD⟩, va_recv hKc hPc (ci := 1) (q0 := 0) rfl rfl, fun U hU hW => ⟨rfl, by rw [hU], by rw [hU]; exact hPc, va_K.moved hW.alike hKc, hDc.weaken (fun _ _ _ _ => trivial)⟩⟩ rfl rfl hl.1 rfl (lv_room (Nat.le_of_ble_eq_true rfl)) dX14_given_7 ⟨Nat.le_refl 1, Nat.le_refl 4⟩) hS (fun q _ h => hFc q h) hFc (fun u q t H1 locs ht hvm hw hB hz1 hk1 hS => ?_)
  obtain ⟨hP1, hK1, hD1⟩ := hB
  rw [ht] at hP1
  have hK1 := va_K.moved hvm.symm hK1
  have hq : s.heap.size ≤ q := by
    rcases hD1.2 0 _ rfl with ⟨k, e9, hk⟩ | h
    · match k, hk with
      | 0, hk =>
        have h9 : h1 = q := by simpa using congrArg (Option.map Prod.fst) hk
        exact absurd (hD1.1 0 1 _ _ rfl rfl h9.symm) (by decide)
    · exact h
  obtain ⟨hP, hD⟩ := va_join (wr := [(h0, .inr (2, fm))]) (w1 := [(q, .inr (0, [.int 0, .int (-1), .int mo, .ref h1])), (h1, .inr (1, [.int mo, el, .int 0]))]) hP hD [1] [0] rfl rfl (by decide) (by decide) hk1 hFc hP1 hD1
  have hP : va_P (dC, dI) ig_cl [(h0, .inr (2, fm)), (q, .inr (0, [.int 0, .int (-1), .int mo, .ref h1])), (h1, .inr (1, [.int mo, el, .int 0]))] H1 := hP
  have hD : va_D A [(h0, .inr (2, fm)), (q, .inr (0, [.int 0, .int (-1), .int mo, .ref h1])), (h1, .inr (1, [.int mo, el, .int 0]))] := hD
  have hbig : s.heap.size + 1 ≤ H1.size := Nat.lt_of_le_of_lt hq (va_at.lt (hP 1 _ rfl))
  refine lv_astore (lv' := [(5, .ref q), (4, .int 0), (0, .ref h0), (1, .int p1), (2, .int p2), (3, .int p3)]) hx hb dX14_given_10 hl (by decide) rfl (fun ls hl => ?_)
  refine lv_aload hx hb dX14_given_12 (lv_at hl 0 rfl) ?_
  have hPc := hP.sub (ws' := [(q, .inr (0, [.int 0, .int (-1), .int mo, .ref h1])), (h1, .inr (1, [.int mo, el, .int 0]))]) [1, 2] rfl
  have hDc := hD.sub (ws' := [(q, .inr (0, [.int 0, .int (-1), .int mo, .ref h1])), (h1, .inr (1, [.int mo, el, .int 0]))]) [1, 2] (by decide) rfl
  have hFc := va_free (wc := [(q, .inr (0, [.int 0, .int (-1), .int mo, .ref h1])), (h1, .inr (1, [.int mo, el, .int 0]))]) hD hS hA [1, 2] rfl
  refine va_callFi (va_runF (As := []) (rest := []) (hK.1 0 _ rfl).2 ⟨hx, hb, hml, hown, hts⟩ (ig_hasNextM l dC dI q h1 H1.size 0 (-1) mo 0 mo el) (va_cwF 0 hts gX14_given_Jx35411_hasNext_aae02_f144Jx35411 rfl rfl rfl hF (by decide +kernel) ⟨Nat.le_of_ble_eq_true rfl, Nat.le_of_ble_eq_true rfl⟩) ⟨fun a U g mk q => by obtain ⟨q0, q1, qP, qK, qD, qN⟩ := q; exact ⟨q0, q1, qP, va_K.moved (u := U) (U := U.calling g mk a) (Vm.Alike.refl U.vm) qK, qD, va_Nw.same rfl rfl qN⟩, va_recv hKc hPc (ci := 0) (q0 := 0) rfl rfl, fun U hU hW => ⟨rfl, by rw [hU], by rw [hU]; exact hPc, va_K.moved hW.alike hKc, hDc.weaken (fun _ _ _ _ => trivial), va_Nw.warmF hW hN⟩⟩ rfl rfl hl.1 rfl (lv_room (Nat.le_of_ble_eq_true rfl)) dX14_given_14 ⟨Nat.le_refl 1, Nat.le_refl 4⟩) hS (fun q _ h => hFc q h) hFc (fun r u t H2 locs ht hvm hw hB hz2 hk2 hS => ?_)
  obtain ⟨hP2, hK2, hD2⟩ := hB
  rw [ht] at hP2
  obtain ⟨hP, hD⟩ := va_join (wr := [(h0, .inr (2, fm))]) (w1 := [(q, .inr (0, [.int 0, .int (-1), .int mo, .ref h1])), (h1, .inr (1, [.int mo, el, .int 0]))]) hP hD [1, 2] [0] rfl rfl (by decide) (by decide) hk2 hFc hP2 hD2
  have hP : va_P (dC, dI) ig_cl [(h0, .inr (2, fm)), (q, .inr (0, [.int 0, .int (-1), .int mo, .ref h1])), (h1, .inr (1, [.int mo, el, .int 0]))] H2 := hP
  have hr0 : r = 0 := by rw [hw]; rfl
  subst hr0
  refine lv_if_eq (tgt := 75) hx hb dX14_given_19 (by decide) (fun _ => ?_) (fun c9 => absurd rfl c9)
  refine lv_iload hx hb dX14_given_75 (lv_at hl 1 rfl) ?_
  have hP9 := hP.sub (ws' := [(h0, .inr (2, fm)), (h1, .inr (1, [.int mo, el, .int 0]))]) [0, 2] rfl
  exact W.iret (v := 0) hx hb hr (fun t ht hW => ⟨⟨0, (), rfl, rfl, by rw [ht]; exact Nat.le_trans hbig hz2, by rw [ht]; exact hP9, va_K.moved hW.alike hK⟩, hS.F ht⟩) hS.2.2 dX14_given_77
end
section
/-- the reference's cells that its search for a level looks at -/
abbrev ig_w (h0 h1 : Nat) (mo : Int32) (el a0 a1 a3 a4 a5 a6 : Value) (b7 b8 b9 b10 b11 b12 b13 : Int32) : va_W := [(h0, .inr (2, ig_model h1 a0 a1 a3 a4 a5 a6 b7 b8 b9 b10 b11 b12 b13)), (h1, .inr (1, [.int mo, el, .int 0]))]
set_option maxHeartbeats 4000000 in
set_option maxRecDepth 100000 in
/-- the search for a chamber's level in fills(..) of the reference, over a list without nozzles: from level k it comes to its end at level 100, AND THE HEAP IS LONGER BY 100 - k CELLS (one at each look; not more: that is what 'cells' counts) -/
theorem ig_level {p : Program} {l : Launch} {e : Env} {R : Room} {s : State} {m : MethodId} {args : Array Value} {below : List Frame} {meth : Method} {c : Code} {Q : State → Prop} {A : Nat → Prop} {H0 : Heap} {dC : Nat → ClassId} {dI : Nat → Nat → Nat} {h0 h1 : Nat} {mo : Int32} {el a0 a1 a3 a4 a5 a6 : Value} {b7 b8 b9 b10 b11 b12 b13 num ch left : Int32}
    (hx : p.tables.exec = Jvm.exec) (hb : c.code = cX14_fills) (hml : c.maxLocals = 11) (hown : s.vm.findClass RX14 = some m.cls) (hts : ∀ w ∈ wsX14_fills, w.before args s = true) (hK : va_K (dC, dI) ig_cl [] s) (hN : va_Nw ig_N s) (hF : va_Fw RJx35411 ig_x yJx35411_hasNext_aae02 s) (hA : ∀ q, H0.size ≤ q → A q) (hRf : 5 ≤ R.frames) (hRl : 86 ≤ R.locals) (hleft : ¬ left < 0) :
    ∀ (n k : Nat), k + n = 100 → ∀ (H : Heap) (locs : List Loc) (cells slots : Nat), va_P (dC, dI) ig_cl (ig_w h0 h1 mo el a0 a1 a3 a4 a5 a6 b7 b8 b9 b10 b11 b12 b13) H → va_D A (ig_w h0 h1 mo el a0 a1 a3 a4 a5 a6 b7 b8 b9 b10 b11 b12 b13) → va_S A H0 H locs → cells + n ≤ R.cells → slots + 4 * n ≤ R.slots → ∀ ls : Array Slot, lv_has ls 11 [(7, .int (nI k)), (0, .ref h0), (1, .int num), (4, .int left), (6, .int ch)] →
      (∀ (H1 : Heap) (locs1 : List Loc) (ls1 : Array Slot), va_P (dC, dI) ig_cl (ig_w h0 h1 mo el a0 a1 a3 a4 a5 a6 b7 b8 b9 b10 b11 b12 b13) H1 → va_S A H0 H1 locs1 → H.size + n ≤ H1.size → lv_has ls1 11 [(7, .int 100), (0, .ref h0), (1, .int num), (4, .int left), (6, .int ch)] → W p l e R s m args below meth c H1 locs1 (cells + n) (slots + 4 * n) Q (F0 m 113 ls1 [])) →
      W p l e R s m args below meth c H locs cells slots Q (F0 m 84 ls []) := by
  have e100 : nI 100 = 100 := by decide
  intro n
  induction n with
  | zero =>
    intro k hk H locs cells slots hP hD hS hc9 hs9 ls hl kk
    have hk : k = 100 := by omega
    subst hk
    refine lv_iload hx hb dX14_fills_84 (lv_at hl 0 rfl) ?_
    refine lv_bipush (v := 100) hx hb dX14_fills_86 (by decide) ?_
    refine lv_icmp_ge (tgt := 113) hx hb dX14_fills_88 (by decide) (fun _ => ?_) (fun c9 => absurd (by rw [e100]; exact Int32.le_refl 100) c9)
    exact kk H locs ls hP hS (Nat.le_refl _) (by rw [e100] at hl; exact hl)
  | succ n ih =>
    intro k hk H locs cells slots hP hD hS hc9 hs9 ls hl kk
    refine lv_iload hx hb dX14_fills_84 (lv_at hl 0 rfl) ?_
    refine lv_bipush (v := 100) hx hb dX14_fills_86 (by decide) ?_
    refine lv_icmp_ge (tgt := 113) hx hb dX14_fills_88 (by decide) (fun c9 => absurd (by rw [← e100] at c9; exact c9) (nI_ge (by omega) (by decide))) (fun _ => ?_)
    refine lv_aload_n hx hb dX14_fills_91 rfl (lv_at hl 1 rfl) ?_
    refine lv_iload_n hx hb dX14_fills_92 rfl (lv_at hl 2 rfl) ?_
    refine lv_iload hx hb dX14_fills_93 (lv_at hl 4 rfl) ?_
    refine lv_iload hx hb dX14_fills_95 (lv_at hl 0 rfl) ?_
    refine lv_iconst (v := 1) hx hb dX14_fills_97 (by decide) ?_
    refine lv_iadd hx hb dX14_fills_98 ?_
    have hPc := hP.sub (ws' := ig_w h0 h1 mo el a0 a1 a3 a4 a5 a6 b7 b8 b9 b10 b11 b12 b13) [0, 1] rfl
    have hDc := hD.sub (ws' := ig_w h0 h1 mo el a0 a1 a3 a4 a5 a6 b7 b8 b9 b10 b11 b12 b13) [0, 1] (by decide) rfl
    have hKc := hK.sub (tys' := []) [] rfl
    have hFc := va_free (wc := ig_w h0 h1 mo el a0 a1 a3 a4 a5 a6 b7 b8 b9 b10 b11 b12 b13) hD hS hA [0, 1] rfl
    refine va_calli (va_runV (As := [.int num, .int ch, .int (nI k + 1)]) (rest := []) ⟨hx, hb, hml, hown, hts⟩ (ig_given l dC dI h0 h1 H.size mo el num ch (nI k + 1) a0 a1 a3 a4 a5 a6 b7 b8 b9 b10 b11 b12 b13) (cwV 3 hts gX14_fills_X14_given rfl rfl rfl (by decide +kernel) ⟨hRf, hRl⟩) ⟨fun a U g mk q => by obtain ⟨q0, q1, qP, qK, qD, qN, qF⟩ := q; exact ⟨q0, q1, qP, va_K.moved (u := U) (U := U.calling g mk a) (Vm.Alike.refl U.vm) qK, qD, va_Nw.same rfl rfl qN, va_Fw.moved (by decide +kernel) (Vm.Alike.refl U.vm) qF⟩, va_recv hKc hPc (ci := 2) (q0 := 0) rfl rfl, fun U hU hW => ⟨rfl, by rw [hU], by rw [hU]; exact hPc, va_K.moved hW.alike hKc, hDc.weaken (fun _ _ _ _ => trivial), va_Nw.warmF hW hN, va_Fw.moved (by decide +kernel) hW.alike hF⟩⟩ rfl rfl hl.1 rfl (lv_room (Nat.le_of_ble_eq_true rfl)) dX14_fills_99 ⟨by omega, by omega⟩) hS (fun q _ h => hFc q h) hFc (fun r u t H1 locs ht hvm hw hB hz1 hk1 hS => ?_)
    obtain ⟨hbig, hP1, hK1⟩ := hB
    rw [ht] at hP1 hbig
    subst hw
    refine lv_iload hx hb dX14_fills_102 (lv_at hl 3 rfl) ?_
    refine lv_icmp_gt (tgt := 113) hx hb dX14_fills_104 (by decide) (fun c9 => absurd c9 hleft) (fun _ => ?_)
    refine lv_iinc (v := nI (k + 1)) (lv' := [(7, .int (nI (k + 1))), (0, .ref h0), (1, .int num), (4, .int left), (6, .int ch)]) hx hb dX14_fills_107 hl (k := 0) rfl (by rw [nI_succ]; rfl) (by decide) rfl (fun ls hl => ?_)
    refine lv_goto (tgt := 84) hx hb dX14_fills_110 (by decide) ?_
    refine ih (k + 1) (by omega) H1 locs (cells + 1) (slots + 4) hP1 hD hS (by omega) (by omega) ls hl (fun H2 locs2 ls2 qP qS qB qL => ?_)
    have q1 : cells + 1 + n = cells + (n + 1) := by omega
    have q2 : slots + 4 + 4 * n = slots + 4 * (n + 1) := by omega
    rw [q1, q2]
    exact kk H2 locs2 ls2 qP qS (by omega) qL
end
section
/-- Every start that the Statement allows has the class of arrays of StackTraceElement in its table: the premise's word on the cast to Castle has no value without it. (The printed start has no class of that name: REPORT.md, TRANSLATOR.) -/
theorem ev_wants {args : Array Value} {s : State} (h : (Jvm.Cond.and given_1 narrow_1).before args s = true) : ∃ c, s.vm.findClass "[Ljava/lang/StackTraceElement;" = some c := by
  have hs := flat_of_before _ h
  have hc : (Cond.not (Cond.castable "[Ljava/lang/StackTraceElement;" "CuratorAquarum$Castle")).before args s = true := hs _ (by decide +kernel)
  cases hf : s.vm.findClass "[Ljava/lang/StackTraceElement;" with
  | some c => exact ⟨c, rfl⟩
  | none => simp [Cond.before, Cond.holds, Cond.value, hf] at hc
end
