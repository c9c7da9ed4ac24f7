theorem goodIn_r {big : List Cond} (ws : List Cond) (ps : List Nat) (hp : ws = ps.filterMap (fun i => big[i]?)) (h : ws.all goodWord = true) : GoodIn big ws := by
  intro w hw
  have h1 := List.all_eq_true.mp h w hw
  rw [hp] at hw
  obtain ⟨i, -, hi⟩ := List.mem_filterMap.mp hw
  have hm : w ∈ big := by first | exact List.mem_of_getElem? hi | exact List.getElem?_mem hi
  exact ⟨hm, good_of_word h1⟩
theorem goodIn_app {big a b : List Cond} (ha : GoodIn big a) (hb : GoodIn big b) : GoodIn big (a ++ b) := fun w h => (List.mem_append.mp h).elim (ha w) (hb w)
theorem goodIn_sub {big ws : List Cond} (hm : ∀ w ∈ ws, w ∈ big) (h : ws.all goodWord = true) : GoodIn big ws := fun w hw => ⟨hm w hw, good_of_word (List.all_eq_true.mp h w hw)⟩
def RX12 : String := "CuratorAquarumModel$Nozzle"
def TX12 : u_T := fun k => match k with
  | 0 => ("CuratorAquarumModel$Nozzle", "node", "I", true)
  | 1 => ("CuratorAquarumModel$Nozzle", "chamber", "I", true)
  | 2 => ("CuratorAquarumModel$Nozzle", "bore", "I", true)
  | 3 => ("CuratorAquarumModel$Nozzle", "height", "I", true)
  | 4 => ("CuratorAquarumModel$Nozzle", "real", "I", false)
  | 5 => ("CuratorAquarumModel$Nozzle", "isShut", "Z", false)
  | 6 => ("CuratorAquarumModel$Nozzle", "person", "I", false)
  | _ => ("CuratorAquarumModel$Nozzle", "house", "I", false)
abbrev wsX120 : List Cond := u_ws RX12 TX12 8
abbrev cX12_gives : ByteArray := prog_15_method_2_code
def yX12_gives : MethodName := ⟨RX12, "gives", "(II)I"⟩
def RX14 : String := "CuratorAquarumModel"
def TX14 : u_T := fun k => match k with
  | 0 => ("CuratorAquarumModel", "nodes", "Ljava/util/ArrayList;", true)
  | 1 => ("CuratorAquarumModel", "stretches", "Ljava/util/ArrayList;", true)
  | 2 => ("CuratorAquarumModel", "nozzles", "Ljava/util/ArrayList;", true)
  | 3 => ("CuratorAquarumModel", "list", "Ljava/util/ArrayList;", true)
  | 4 => ("CuratorAquarumModel", "areDead", "[Z", true)
  | 5 => ("CuratorAquarumModel", "accounts", "[I", true)
  | 6 => ("CuratorAquarumModel", "purses", "[I", true)
  | 7 => ("CuratorAquarumModel", "months", "I", false)
  | 8 => ("CuratorAquarumModel", "rain", "I", false)
  | 9 => ("CuratorAquarumModel", "care", "I", false)
  | 10 => ("CuratorAquarumModel", "z", "I", false)
  | 11 => ("CuratorAquarumModel", "tellers", "I", false)
  | 12 => ("CuratorAquarumModel", "fisc", "I", false)
  | _ => ("CuratorAquarumModel", "thrown", "I", false)
abbrev wsX140 : List Cond := u_ws RX14 TX14 14
abbrev cX14_given : ByteArray := prog_13_method_23_code
def yX14_given : MethodName := ⟨RX14, "given", "(III)I"⟩
abbrev cX14_given_ : ByteArray := prog_13_method_43_code
def RJx35411 : String := "java/util/ArrayList$Itr"
def TJx35411 : u_T := fun k => match k with
  | 0 => ("java/util/ArrayList$Itr", "cursor", "I", false)
  | 1 => ("java/util/ArrayList$Itr", "lastRet", "I", false)
  | 2 => ("java/util/ArrayList$Itr", "expectedModCount", "I", false)
  | _ => ("java/util/ArrayList$Itr", "this$0", "Ljava/util/ArrayList;", true)
def tyJx35411 : Nat → FieldType := fun k => match k with
  | 0 => .int
  | 1 => .int
  | 2 => .int
  | _ => .object "java/util/ArrayList"
abbrev wsJx354110 : List Cond := u_ws RJx35411 TJx35411 4
theorem nmJx35411 : ∀ a, a < 4 → ∀ b, b < 4 → a ≠ b → (TJx35411 a).2.1 ≠ (TJx35411 b).2.1 := by decide +kernel
theorem tyJx35411_ok : ∀ k, k < 4 → parseFieldDescriptor (TJx35411 k).2.2.1 = some (tyJx35411 k) := by decide +kernel
abbrev cJx35411_init_45d68 : ByteArray := prog_46_method_1_code
def yJx35411_init_45d68 : MethodName := ⟨RJx35411, "<init>", "(Ljava/util/ArrayList;)V"⟩
abbrev cJx35411_hasNext_aae02 : ByteArray := prog_46_method_2_code
def yJx35411_hasNext_aae02 : MethodName := ⟨RJx35411, "hasNext", "()Z"⟩
abbrev cJx35411_next_0502b : ByteArray := prog_46_method_3_code
def yJx35411_next_0502b : MethodName := ⟨RJx35411, "next", "()Ljava/lang/Object;"⟩
abbrev cJx35411_checkForComodification_da8c8 : ByteArray := prog_46_method_6_code
def yJx35411_checkForComodification_da8c8 : MethodName := ⟨RJx35411, "checkForComodification", "()V"⟩
def RJx4a65c : String := "java/util/ArrayList"
def TJx4a65c : u_T := fun k => match k with
  | 0 => ("java/util/AbstractList", "modCount", "I", false)
  | 1 => ("java/util/ArrayList", "elementData", "[Ljava/lang/Object;", false)
  | _ => ("java/util/ArrayList", "size", "I", false)
abbrev wsJx4a65c0 : List Cond := u_ws RJx4a65c TJx4a65c 3
abbrev cJx4a65c_iterator_32c93 : ByteArray := prog_45_method_55_code
def yJx4a65c_iterator_32c93 : MethodName := ⟨RJx4a65c, "iterator", "()Ljava/util/Iterator;"⟩
def wsJx35411_init_45d68 : List Cond := .code yJx35411_init_45d68 cJx35411_init_45d68 2 none :: ([.fieldLink RJx35411 1 "java/util/ArrayList$Itr" "this$0" "Ljava/util/ArrayList;", .methodLink RJx35411 7 objectInit, .instanceMethod objectInit, .code objectInit ⟨#[0xb1]⟩ 1 none, .fieldLink RJx35411 13 "java/util/ArrayList$Itr" "lastRet" "I", .fieldLink RJx35411 17 "java/util/ArrayList" "modCount" "I", .sameField "java/util/ArrayList" "java/util/AbstractList" "modCount" "I", .fieldLink RJx35411 22 "java/util/ArrayList$Itr" "expectedModCount" "I"] ++ wsJx354110 ++ wsJx4a65c0)
def wsJx4a65c_iterator_32c93 : List Cond := .code yJx4a65c_iterator_32c93 cJx4a65c_iterator_32c93 1 (some (.object "java/util/Iterator")) :: ([.classLink RJx4a65c 267 RJx35411, .instantiable RJx35411 4, .initialized RJx35411, .methodLink RJx4a65c 269 yJx35411_init_45d68, .instanceMethod yJx35411_init_45d68, .code yJx35411_init_45d68 cJx35411_init_45d68 2 none, .fieldLink RJx35411 1 "java/util/ArrayList$Itr" "this$0" "Ljava/util/ArrayList;", .methodLink RJx35411 7 objectInit, .instanceMethod objectInit, .code objectInit ⟨#[0xb1]⟩ 1 none, .fieldLink RJx35411 13 "java/util/ArrayList$Itr" "lastRet" "I", .fieldLink RJx35411 17 "java/util/ArrayList" "modCount" "I", .sameField "java/util/ArrayList" "java/util/AbstractList" "modCount" "I", .fieldLink RJx35411 22 "java/util/ArrayList$Itr" "expectedModCount" "I"] ++ wsJx354110 ++ wsJx4a65c0)
def wsJx35411_hasNext_aae02 : List Cond := .code yJx35411_hasNext_aae02 cJx35411_hasNext_aae02 1 (some .boolean) :: ([.fieldLink RJx35411 25 "java/util/ArrayList$Itr" "cursor" "I", .fieldLink RJx35411 1 "java/util/ArrayList$Itr" "this$0" "Ljava/util/ArrayList;"] ++ wsJx354110 ++ wsJx4a65c0)
def wsX14_given_r1 : List Cond := [Cond.fieldLink RX14 19 "CuratorAquarumModel" "nozzles" "Ljava/util/ArrayList;", Cond.classLink RX14 166 "CuratorAquarumModel$Nozzle", Cond.methodLink RX14 140 yJx4a65c_iterator_32c93, Cond.instanceMethod yJx4a65c_iterator_32c93, Cond.selects RJx4a65c yJx4a65c_iterator_32c93 yJx4a65c_iterator_32c93, Cond.initialized RJx4a65c, Cond.code yJx4a65c_iterator_32c93 cJx4a65c_iterator_32c93 1 (some (.object "java/util/Iterator")), Cond.classLink RJx4a65c 267 RJx35411, Cond.instantiable RJx35411 4, Cond.initialized RJx35411, Cond.methodLink RJx4a65c 269 yJx35411_init_45d68, Cond.instanceMethod yJx35411_init_45d68, Cond.code yJx35411_init_45d68 cJx35411_init_45d68 2 none, Cond.fieldLink RJx35411 1 "java/util/ArrayList$Itr" "this$0" "Ljava/util/ArrayList;", Cond.methodLink RJx35411 7 objectInit, Cond.instanceMethod objectInit, Cond.code objectInit ⟨#[0xb1]⟩ 1 none, Cond.fieldLink RJx35411 13 "java/util/ArrayList$Itr" "lastRet" "I", Cond.fieldLink RJx35411 17 "java/util/ArrayList" "modCount" "I", Cond.sameField "java/util/ArrayList" "java/util/AbstractList" "modCount" "I", Cond.fieldLink RJx35411 22 "java/util/ArrayList$Itr" "expectedModCount" "I", Cond.methodLink RX14 144 ⟨"java/util/Iterator", "hasNext", "()Z"⟩, Cond.selects RJx35411 ⟨"java/util/Iterator", "hasNext", "()Z"⟩ yJx35411_hasNext_aae02, Cond.instanceMethod yJx35411_hasNext_aae02]
def wsX14_given_r2 : List Cond := [Cond.code yJx35411_hasNext_aae02 cJx35411_hasNext_aae02 1 (some .boolean), Cond.fieldLink RJx35411 25 "java/util/ArrayList$Itr" "cursor" "I", Cond.methodLink RX14 150 ⟨"java/util/Iterator", "next", "()Ljava/lang/Object;"⟩, Cond.selects RJx35411 ⟨"java/util/Iterator", "next", "()Ljava/lang/Object;"⟩ yJx35411_next_0502b, Cond.instanceMethod yJx35411_next_0502b, Cond.code yJx35411_next_0502b cJx35411_next_0502b 3 (some (.object "java/lang/Object")), Cond.fieldLink RJx35411 37 "java/util/ArrayList" "elementData" "[Ljava/lang/Object;", Cond.methodLink RJx35411 31 yJx35411_checkForComodification_da8c8, Cond.instanceMethod yJx35411_checkForComodification_da8c8, Cond.selects RJx35411 yJx35411_checkForComodification_da8c8 yJx35411_checkForComodification_da8c8, Cond.code yJx35411_checkForComodification_da8c8 cJx35411_checkForComodification_da8c8 1 none, Cond.methodLink RX14 177 yX12_gives, Cond.instanceMethod yX12_gives, Cond.selects RX12 yX12_gives yX12_gives, Cond.initialized RX12, Cond.code yX12_gives cX12_gives 3 (some .int), Cond.fieldLink RX12 33 "CuratorAquarumModel$Nozzle" "isShut" "Z", Cond.fieldLink RX12 27 "CuratorAquarumModel$Nozzle" "height" "I"]
def wsX14_given : List Cond := .code yX14_given cX14_given 7 (some .int) :: ((wsX14_given_r1 ++ wsX14_given_r2) ++ wsX140 ++ wsX120 ++ wsJx354110 ++ wsJx4a65c0)
set_option maxRecDepth 20000 in
theorem ggX14_given_Jx4a65c_iterator_32c93 : GoodIn wsX14_given wsJx4a65c_iterator_32c93 := goodIn_r _ [7, 8, 9, 10, 11, 12, 13, 14, 15, 16, 17, 18, 19, 20, 21, 65, 66, 67, 68, 69, 70, 71] (by decide +kernel) (by decide +kernel)
set_option maxRecDepth 20000 in
theorem gX14_given_Jx4a65c_iterator_32c93 : GoodIn wsX14_given (wsV RX14 140 RJx4a65c yJx4a65c_iterator_32c93 wsJx4a65c_iterator_32c93) := goodIn_app (goodIn_of _ (by decide +kernel)) ggX14_given_Jx4a65c_iterator_32c93
set_option maxRecDepth 20000 in
theorem ggX14_given_Jx35411_hasNext_aae02 : GoodIn wsX14_given wsJx35411_hasNext_aae02 := goodIn_r _ [25, 26, 14, 65, 66, 67, 68, 69, 70, 71] (by decide +kernel) (by decide +kernel)
set_option maxRecDepth 20000 in
theorem gX14_given_Jx35411_hasNext_aae02_f144Jx35411 : GoodIn wsX14_given (va_wsF RX14 144 RJx35411 ⟨"java/util/Iterator", "hasNext", "()Z"⟩ yJx35411_hasNext_aae02 wsJx35411_hasNext_aae02) := goodIn_app (goodIn_of _ (by decide +kernel)) ggX14_given_Jx35411_hasNext_aae02
theorem dX14_given_0 : decode cX14_given 0 = .ok (.iconst 0, 1) := by decide +kernel
theorem dX14_given_1 : decode cX14_given 1 = .ok (.istore 4, 2) := by decide +kernel
theorem dX14_given_3 : decode cX14_given 3 = .ok (.aload_n 0, 1) := by decide +kernel
theorem dX14_given_4 : decode cX14_given 4 = .ok (.getfield 19, 3) := by decide +kernel
theorem dX14_given_7 : decode cX14_given 7 = .ok (.invokevirtual 140, 3) := by decide +kernel
theorem dX14_given_10 : decode cX14_given 10 = .ok (.astore 5, 2) := by decide +kernel
theorem dX14_given_12 : decode cX14_given 12 = .ok (.aload 5, 2) := by decide +kernel
theorem dX14_given_14 : decode cX14_given 14 = .ok (.invokeinterface 144 1, 5) := by decide +kernel
theorem dX14_given_19 : decode cX14_given 19 = .ok (.ifCond .eq 56, 3) := by decide +kernel
theorem dX14_given_22 : decode cX14_given 22 = .ok (.aload 5, 2) := by decide +kernel
theorem dX14_given_24 : decode cX14_given 24 = .ok (.invokeinterface 150 1, 5) := by decide +kernel
theorem dX14_given_29 : decode cX14_given 29 = .ok (.checkcast 166, 3) := by decide +kernel
theorem dX14_given_32 : decode cX14_given 32 = .ok (.astore 6, 2) := by decide +kernel
theorem dX14_given_34 : decode cX14_given 34 = .ok (.iload 4, 2) := by decide +kernel
theorem dX14_given_36 : decode cX14_given 36 = .ok (.aload 6, 2) := by decide +kernel
theorem dX14_given_38 : decode cX14_given 38 = .ok (.getfield 168, 3) := by decide +kernel
theorem dX14_given_41 : decode cX14_given 41 = .ok (.iload_n 1, 1) := by decide +kernel
theorem dX14_given_42 : decode cX14_given 42 = .ok (.if_icmp .ne 26, 3) := by decide +kernel
theorem dX14_given_45 : decode cX14_given 45 = .ok (.aload 6, 2) := by decide +kernel
theorem dX14_given_47 : decode cX14_given 47 = .ok (.getfield 171, 3) := by decide +kernel
theorem dX14_given_50 : decode cX14_given 50 = .ok (.iload_n 2, 1) := by decide +kernel
theorem dX14_given_51 : decode cX14_given 51 = .ok (.if_icmp .ne 17, 3) := by decide +kernel
theorem dX14_given_54 : decode cX14_given 54 = .ok (.aload 6, 2) := by decide +kernel
theorem dX14_given_56 : decode cX14_given 56 = .ok (.aload 6, 2) := by decide +kernel
theorem dX14_given_58 : decode cX14_given 58 = .ok (.getfield 174, 3) := by decide +kernel
theorem dX14_given_61 : decode cX14_given 61 = .ok (.iload_n 3, 1) := by decide +kernel
theorem dX14_given_62 : decode cX14_given 62 = .ok (.invokevirtual 177, 3) := by decide +kernel
theorem dX14_given_65 : decode cX14_given 65 = .ok (.goto 4, 3) := by decide +kernel
theorem dX14_given_68 : decode cX14_given 68 = .ok (.iconst 0, 1) := by decide +kernel
theorem dX14_given_69 : decode cX14_given 69 = .ok (.iadd, 1) := by decide +kernel
theorem dX14_given_70 : decode cX14_given 70 = .ok (.istore 4, 2) := by decide +kernel
theorem dX14_given_72 : decode cX14_given 72 = .ok (.goto (-60), 3) := by decide +kernel
theorem dX14_given_75 : decode cX14_given 75 = .ok (.iload 4, 2) := by decide +kernel
theorem dX14_given_77 : decode cX14_given 77 = .ok (.ireturn, 1) := by decide +kernel
theorem dX14_given__0 : decode cX14_given_ 0 = .ok (.aload_n 0, 1) := by decide +kernel
theorem dX14_given__1 : decode cX14_given_ 1 = .ok (.aload_n 0, 1) := by decide +kernel
theorem dX14_given__2 : decode cX14_given_ 2 = .ok (.iload_n 1, 1) := by decide +kernel
theorem dX14_given__3 : decode cX14_given_ 3 = .ok (.invokevirtual 278, 3) := by decide +kernel
theorem dX14_given__6 : decode cX14_given_ 6 = .ok (.iconst 1, 1) := by decide +kernel
theorem dX14_given__7 : decode cX14_given_ 7 = .ok (.invokevirtual 54, 3) := by decide +kernel
theorem dX14_given__10 : decode cX14_given_ 10 = .ok (.ifCond .eq 5, 3) := by decide +kernel
theorem dX14_given__13 : decode cX14_given_ 13 = .ok (.iconst 0, 1) := by decide +kernel
theorem dX14_given__14 : decode cX14_given_ 14 = .ok (.ireturn, 1) := by decide +kernel
theorem dX14_given__15 : decode cX14_given_ 15 = .ok (.aload_n 0, 1) := by decide +kernel
theorem dX14_given__16 : decode cX14_given_ 16 = .ok (.getfield 19, 3) := by decide +kernel
theorem dX14_given__19 : decode cX14_given_ 19 = .ok (.iload_n 1, 1) := by decide +kernel
theorem dX14_given__20 : decode cX14_given_ 20 = .ok (.invokevirtual 67, 3) := by decide +kernel
theorem dX14_given__23 : decode cX14_given_ 23 = .ok (.checkcast 166, 3) := by decide +kernel
theorem dX14_given__26 : decode cX14_given_ 26 = .ok (.astore_n 2, 1) := by decide +kernel
theorem dX14_given__27 : decode cX14_given_ 27 = .ok (.aload_n 2, 1) := by decide +kernel
theorem dX14_given__28 : decode cX14_given_ 28 = .ok (.aload_n 2, 1) := by decide +kernel
theorem dX14_given__29 : decode cX14_given_ 29 = .ok (.getfield 174, 3) := by decide +kernel
theorem dX14_given__32 : decode cX14_given_ 32 = .ok (.aload_n 0, 1) := by decide +kernel
theorem dX14_given__33 : decode cX14_given_ 33 = .ok (.aload_n 2, 1) := by decide +kernel
theorem dX14_given__34 : decode cX14_given_ 34 = .ok (.invokevirtual 285, 3) := by decide +kernel
theorem dX14_given__37 : decode cX14_given_ 37 = .ok (.invokevirtual 177, 3) := by decide +kernel
theorem dX14_given__40 : decode cX14_given_ 40 = .ok (.ireturn, 1) := by decide +kernel
theorem dJx35411_init_45d68_0 : decode cJx35411_init_45d68 0 = .ok (.aload_n 0, 1) := by decide +kernel
theorem dJx35411_init_45d68_1 : decode cJx35411_init_45d68 1 = .ok (.aload_n 1, 1) := by decide +kernel
theorem dJx35411_init_45d68_2 : decode cJx35411_init_45d68 2 = .ok (.putfield 1, 3) := by decide +kernel
theorem dJx35411_init_45d68_5 : decode cJx35411_init_45d68 5 = .ok (.aload_n 0, 1) := by decide +kernel
theorem dJx35411_init_45d68_6 : decode cJx35411_init_45d68 6 = .ok (.invokespecial 7, 3) := by decide +kernel
theorem dJx35411_init_45d68_9 : decode cJx35411_init_45d68 9 = .ok (.aload_n 0, 1) := by decide +kernel
theorem dJx35411_init_45d68_10 : decode cJx35411_init_45d68 10 = .ok (.iconst (-1), 1) := by decide +kernel
theorem dJx35411_init_45d68_11 : decode cJx35411_init_45d68 11 = .ok (.putfield 13, 3) := by decide +kernel
theorem dJx35411_init_45d68_14 : decode cJx35411_init_45d68 14 = .ok (.aload_n 0, 1) := by decide +kernel
theorem dJx35411_init_45d68_15 : decode cJx35411_init_45d68 15 = .ok (.aload_n 0, 1) := by decide +kernel
theorem dJx35411_init_45d68_16 : decode cJx35411_init_45d68 16 = .ok (.getfield 1, 3) := by decide +kernel
theorem dJx35411_init_45d68_19 : decode cJx35411_init_45d68 19 = .ok (.getfield 17, 3) := by decide +kernel
theorem dJx35411_init_45d68_22 : decode cJx35411_init_45d68 22 = .ok (.putfield 22, 3) := by decide +kernel
theorem dJx35411_init_45d68_25 : decode cJx35411_init_45d68 25 = .ok (.return_, 1) := by decide +kernel
theorem dJx35411_hasNext_aae02_0 : decode cJx35411_hasNext_aae02 0 = .ok (.aload_n 0, 1) := by decide +kernel
theorem dJx35411_hasNext_aae02_1 : decode cJx35411_hasNext_aae02 1 = .ok (.getfield 25, 3) := by decide +kernel
theorem dJx35411_hasNext_aae02_4 : decode cJx35411_hasNext_aae02 4 = .ok (.aload_n 0, 1) := by decide +kernel
theorem dJx35411_hasNext_aae02_5 : decode cJx35411_hasNext_aae02 5 = .ok (.getfield 1, 3) := by decide +kernel
theorem dJx35411_hasNext_aae02_8 : decode cJx35411_hasNext_aae02 8 = .ok (.getfield 28, 3) := by decide +kernel
theorem dJx35411_hasNext_aae02_11 : decode cJx35411_hasNext_aae02 11 = .ok (.if_icmp .eq 7, 3) := by decide +kernel
theorem dJx35411_hasNext_aae02_14 : decode cJx35411_hasNext_aae02 14 = .ok (.iconst 1, 1) := by decide +kernel
theorem dJx35411_hasNext_aae02_15 : decode cJx35411_hasNext_aae02 15 = .ok (.goto 4, 3) := by decide +kernel
theorem dJx35411_hasNext_aae02_18 : decode cJx35411_hasNext_aae02 18 = .ok (.iconst 0, 1) := by decide +kernel
theorem dJx35411_hasNext_aae02_19 : decode cJx35411_hasNext_aae02 19 = .ok (.ireturn, 1) := by decide +kernel
theorem dJx4a65c_iterator_32c93_0 : decode cJx4a65c_iterator_32c93 0 = .ok (.new 267, 3) := by decide +kernel
theorem dJx4a65c_iterator_32c93_3 : decode cJx4a65c_iterator_32c93 3 = .ok (.dup, 1) := by decide +kernel
theorem dJx4a65c_iterator_32c93_4 : decode cJx4a65c_iterator_32c93 4 = .ok (.aload_n 0, 1) := by decide +kernel
theorem dJx4a65c_iterator_32c93_5 : decode cJx4a65c_iterator_32c93 5 = .ok (.invokespecial 269, 3) := by decide +kernel
theorem dJx4a65c_iterator_32c93_8 : decode cJx4a65c_iterator_32c93 8 = .ok (.areturn, 1) := by decide +kernel
