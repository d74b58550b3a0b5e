-- ===== PART A: goes FIRST, ahead of the names: the tables' words, and 'selects' of the private methods out of them =====
/-- a private method of a class that the tables say can be made, by its rows of tables_1 -/
def lw_okq (q : MethodName × Nat) : Prop := (q.1.cls ≠ "java/lang/invoke/MethodHandle" ∧ q.1.cls ≠ "java/lang/invoke/VarHandle") ∧ Cond.instantiable q.1.cls q.2 ∈ tables_1 ∧ Cond.privateMethod q.1 ∈ tables_1 ∧ Cond.instanceMethod q.1 ∈ tables_1
theorem lw_p0 : lw_okq (⟨"ShareRuns", "needShare", "(I)V"⟩, 3) := ⟨⟨by decide +kernel, by decide +kernel⟩, List.mem_of_getElem? (i := 14) (by decide +kernel), List.mem_of_getElem? (i := 141) (by decide +kernel), List.mem_of_getElem? (i := 142) (by decide +kernel)⟩
theorem lw_p1 : lw_okq (⟨"java/lang/Throwable", "fillInStackTrace", "(I)Ljava/lang/Throwable;"⟩, 6) := ⟨⟨by decide +kernel, by decide +kernel⟩, List.mem_of_getElem? (i := 187) (by decide +kernel), List.mem_of_getElem? (i := 185) (by decide +kernel), List.mem_of_getElem? (i := 186) (by decide +kernel)⟩
theorem lw_p2 : lw_okq (⟨"ShareRuns", "forgetIf", "(Z)V"⟩, 3) := ⟨⟨by decide +kernel, by decide +kernel⟩, List.mem_of_getElem? (i := 14) (by decide +kernel), List.mem_of_getElem? (i := 238) (by decide +kernel), List.mem_of_getElem? (i := 239) (by decide +kernel)⟩
theorem lw_p3 : lw_okq (⟨"ShareRuns$Race", "movers", "()I"⟩, 16) := ⟨⟨by decide +kernel, by decide +kernel⟩, List.mem_of_getElem? (i := 56) (by decide +kernel), List.mem_of_getElem? (i := 275) (by decide +kernel), List.mem_of_getElem? (i := 276) (by decide +kernel)⟩
theorem lw_p4 : lw_okq (⟨"ShareRuns$Race", "someShareWaits", "()Z"⟩, 16) := ⟨⟨by decide +kernel, by decide +kernel⟩, List.mem_of_getElem? (i := 56) (by decide +kernel), List.mem_of_getElem? (i := 279) (by decide +kernel), List.mem_of_getElem? (i := 280) (by decide +kernel)⟩
theorem lw_p5 : lw_okq (⟨"ShareRuns$Race", "oneTick", "()V"⟩, 16) := ⟨⟨by decide +kernel, by decide +kernel⟩, List.mem_of_getElem? (i := 56) (by decide +kernel), List.mem_of_getElem? (i := 283) (by decide +kernel), List.mem_of_getElem? (i := 284) (by decide +kernel)⟩
theorem lw_p6 : lw_okq (⟨"ShareRuns$Race", "moverBehind", "(I)I"⟩, 16) := ⟨⟨by decide +kernel, by decide +kernel⟩, List.mem_of_getElem? (i := 56) (by decide +kernel), List.mem_of_getElem? (i := 289) (by decide +kernel), List.mem_of_getElem? (i := 290) (by decide +kernel)⟩
theorem lw_p7 : lw_okq (⟨"ShareRuns$Race", "takeNext", "(I)V"⟩, 16) := ⟨⟨by decide +kernel, by decide +kernel⟩, List.mem_of_getElem? (i := 56) (by decide +kernel), List.mem_of_getElem? (i := 297) (by decide +kernel), List.mem_of_getElem? (i := 298) (by decide +kernel)⟩
theorem lw_p8 : lw_okq (⟨"ShareRuns$Race", "spendTick", "(I)Z"⟩, 16) := ⟨⟨by decide +kernel, by decide +kernel⟩, List.mem_of_getElem? (i := 56) (by decide +kernel), List.mem_of_getElem? (i := 301) (by decide +kernel), List.mem_of_getElem? (i := 302) (by decide +kernel)⟩
theorem lw_p9 : lw_okq (⟨"ShareRuns$Race", "finish", "(II)V"⟩, 16) := ⟨⟨by decide +kernel, by decide +kernel⟩, List.mem_of_getElem? (i := 56) (by decide +kernel), List.mem_of_getElem? (i := 314) (by decide +kernel), List.mem_of_getElem? (i := 315) (by decide +kernel)⟩
theorem lw_p10 : lw_okq (⟨"ShareRuns$Race", "letGo", "(I)V"⟩, 16) := ⟨⟨by decide +kernel, by decide +kernel⟩, List.mem_of_getElem? (i := 56) (by decide +kernel), List.mem_of_getElem? (i := 318) (by decide +kernel), List.mem_of_getElem? (i := 319) (by decide +kernel)⟩
theorem lw_p11 : lw_okq (⟨"ShareRuns$Race", "dropBehind", "(I)V"⟩, 16) := ⟨⟨by decide +kernel, by decide +kernel⟩, List.mem_of_getElem? (i := 56) (by decide +kernel), List.mem_of_getElem? (i := 326) (by decide +kernel), List.mem_of_getElem? (i := 327) (by decide +kernel)⟩
theorem lw_p12 : lw_okq (⟨"ShareRuns", "needKnown", "()V"⟩, 3) := ⟨⟨by decide +kernel, by decide +kernel⟩, List.mem_of_getElem? (i := 14) (by decide +kernel), List.mem_of_getElem? (i := 342) (by decide +kernel), List.mem_of_getElem? (i := 343) (by decide +kernel)⟩
theorem lw_p13 : lw_okq (⟨"ShareRuns$Plan", "sumOfWorths", "()J"⟩, 5) := ⟨⟨by decide +kernel, by decide +kernel⟩, List.mem_of_getElem? (i := 22) (by decide +kernel), List.mem_of_getElem? (i := 367) (by decide +kernel), List.mem_of_getElem? (i := 368) (by decide +kernel)⟩
theorem lw_p14 : lw_okq (⟨"ShareRunsModel", "isShare", "(I)Z"⟩, 16) := ⟨⟨by decide +kernel, by decide +kernel⟩, List.mem_of_getElem? (i := 454) (by decide +kernel), List.mem_of_getElem? (i := 517) (by decide +kernel), List.mem_of_getElem? (i := 518) (by decide +kernel)⟩
theorem lw_p15 : lw_okq (⟨"ShareRunsModel", "fails", "(ZZ)Z"⟩, 16) := ⟨⟨by decide +kernel, by decide +kernel⟩, List.mem_of_getElem? (i := 454) (by decide +kernel), List.mem_of_getElem? (i := 521) (by decide +kernel), List.mem_of_getElem? (i := 522) (by decide +kernel)⟩
def lw_privs_1 : List (MethodName × Nat) := [(⟨"ShareRuns", "needShare", "(I)V"⟩, 3), (⟨"java/lang/Throwable", "fillInStackTrace", "(I)Ljava/lang/Throwable;"⟩, 6), (⟨"ShareRuns", "forgetIf", "(Z)V"⟩, 3), (⟨"ShareRuns$Race", "movers", "()I"⟩, 16), (⟨"ShareRuns$Race", "someShareWaits", "()Z"⟩, 16), (⟨"ShareRuns$Race", "oneTick", "()V"⟩, 16), (⟨"ShareRuns$Race", "moverBehind", "(I)I"⟩, 16), (⟨"ShareRuns$Race", "takeNext", "(I)V"⟩, 16), (⟨"ShareRuns$Race", "spendTick", "(I)Z"⟩, 16), (⟨"ShareRuns$Race", "finish", "(II)V"⟩, 16), (⟨"ShareRuns$Race", "letGo", "(I)V"⟩, 16), (⟨"ShareRuns$Race", "dropBehind", "(I)V"⟩, 16), (⟨"ShareRuns", "needKnown", "()V"⟩, 3), (⟨"ShareRuns$Plan", "sumOfWorths", "()J"⟩, 5), (⟨"ShareRunsModel", "isShare", "(I)Z"⟩, 16), (⟨"ShareRunsModel", "fails", "(ZZ)Z"⟩, 16)]
theorem lw_r1 : ∀ q ∈ lw_privs_1, lw_okq q := List.forall_mem_cons.mpr ⟨lw_p0, List.forall_mem_cons.mpr ⟨lw_p1, List.forall_mem_cons.mpr ⟨lw_p2, List.forall_mem_cons.mpr ⟨lw_p3, List.forall_mem_cons.mpr ⟨lw_p4, List.forall_mem_cons.mpr ⟨lw_p5, List.forall_mem_cons.mpr ⟨lw_p6, List.forall_mem_cons.mpr ⟨lw_p7, List.forall_mem_cons.mpr ⟨lw_p8, List.forall_mem_cons.mpr ⟨lw_p9, List.forall_mem_cons.mpr ⟨lw_p10, List.forall_mem_cons.mpr ⟨lw_p11, List.forall_mem_cons.mpr ⟨lw_p12, List.forall_mem_cons.mpr ⟨lw_p13, List.forall_mem_cons.mpr ⟨lw_p14, List.forall_mem_cons.mpr ⟨lw_p15, fun _ h => absurd h List.not_mem_nil⟩⟩⟩⟩⟩⟩⟩⟩⟩⟩⟩⟩⟩⟩⟩⟩
theorem lw_p16 : lw_okq (⟨"ShareRunsModel", "waits", "()I"⟩, 16) := ⟨⟨by decide +kernel, by decide +kernel⟩, List.mem_of_getElem? (i := 454) (by decide +kernel), List.mem_of_getElem? (i := 533) (by decide +kernel), List.mem_of_getElem? (i := 534) (by decide +kernel)⟩
theorem lw_p17 : lw_okq (⟨"ShareRunsModel", "isHeld", "(I)Z"⟩, 16) := ⟨⟨by decide +kernel, by decide +kernel⟩, List.mem_of_getElem? (i := 454) (by decide +kernel), List.mem_of_getElem? (i := 537) (by decide +kernel), List.mem_of_getElem? (i := 538) (by decide +kernel)⟩
theorem lw_p18 : lw_okq (⟨"ShareRunsModel", "isBehind", "(I)Z"⟩, 16) := ⟨⟨by decide +kernel, by decide +kernel⟩, List.mem_of_getElem? (i := 454) (by decide +kernel), List.mem_of_getElem? (i := 541) (by decide +kernel), List.mem_of_getElem? (i := 542) (by decide +kernel)⟩
theorem lw_p19 : lw_okq (⟨"ShareRunsModel", "movers", "(Z)I"⟩, 16) := ⟨⟨by decide +kernel, by decide +kernel⟩, List.mem_of_getElem? (i := 454) (by decide +kernel), List.mem_of_getElem? (i := 545) (by decide +kernel), List.mem_of_getElem? (i := 546) (by decide +kernel)⟩
theorem lw_p20 : lw_okq (⟨"ShareRunsModel", "mover", "(IZ)I"⟩, 16) := ⟨⟨by decide +kernel, by decide +kernel⟩, List.mem_of_getElem? (i := 454) (by decide +kernel), List.mem_of_getElem? (i := 551) (by decide +kernel), List.mem_of_getElem? (i := 552) (by decide +kernel)⟩
theorem lw_p21 : lw_okq (⟨"ShareRunsModel", "tick", "(II)V"⟩, 16) := ⟨⟨by decide +kernel, by decide +kernel⟩, List.mem_of_getElem? (i := 454) (by decide +kernel), List.mem_of_getElem? (i := 555) (by decide +kernel), List.mem_of_getElem? (i := 556) (by decide +kernel)⟩
theorem lw_p22 : lw_okq (⟨"ShareRunsModel", "winner", "()I"⟩, 16) := ⟨⟨by decide +kernel, by decide +kernel⟩, List.mem_of_getElem? (i := 454) (by decide +kernel), List.mem_of_getElem? (i := 559) (by decide +kernel), List.mem_of_getElem? (i := 560) (by decide +kernel)⟩
theorem lw_p23 : lw_okq (⟨"ShareRunsModel", "counts", "(I)Z"⟩, 16) := ⟨⟨by decide +kernel, by decide +kernel⟩, List.mem_of_getElem? (i := 454) (by decide +kernel), List.mem_of_getElem? (i := 571) (by decide +kernel), List.mem_of_getElem? (i := 572) (by decide +kernel)⟩
def lw_privs_2 : List (MethodName × Nat) := [(⟨"ShareRunsModel", "waits", "()I"⟩, 16), (⟨"ShareRunsModel", "isHeld", "(I)Z"⟩, 16), (⟨"ShareRunsModel", "isBehind", "(I)Z"⟩, 16), (⟨"ShareRunsModel", "movers", "(Z)I"⟩, 16), (⟨"ShareRunsModel", "mover", "(IZ)I"⟩, 16), (⟨"ShareRunsModel", "tick", "(II)V"⟩, 16), (⟨"ShareRunsModel", "winner", "()I"⟩, 16), (⟨"ShareRunsModel", "counts", "(I)Z"⟩, 16)]
theorem lw_r2 : ∀ q ∈ lw_privs_2, lw_okq q := List.forall_mem_cons.mpr ⟨lw_p16, List.forall_mem_cons.mpr ⟨lw_p17, List.forall_mem_cons.mpr ⟨lw_p18, List.forall_mem_cons.mpr ⟨lw_p19, List.forall_mem_cons.mpr ⟨lw_p20, List.forall_mem_cons.mpr ⟨lw_p21, List.forall_mem_cons.mpr ⟨lw_p22, List.forall_mem_cons.mpr ⟨lw_p23, fun _ h => absurd h List.not_mem_nil⟩⟩⟩⟩⟩⟩⟩⟩
def lw_privs : List (MethodName × Nat) := lw_privs_1 ++ (lw_privs_2)
def lw_tbl : List Cond := k2_sels lw_privs ++ tables_1
theorem lw_privs_ok : ∀ q ∈ lw_privs, lw_okq q := by
  show ∀ q ∈ lw_privs_1 ++ (lw_privs_2), lw_okq q
  exact List.forall_mem_append.mpr ⟨lw_r1, lw_r2⟩
/-- the tables' words that a call keeps -/
def zG : List Cond := lw_tbl.filter goodWord
theorem zG_mem {w : Cond} (h : w ∈ lw_tbl) (hg : goodWord w = true) : w ∈ zG := List.mem_filter.mpr ⟨h, hg⟩
theorem zT_mem {k : Nat} {w : Cond} (h : tables_1[k]? = some w) (hg : goodWord w = true) : w ∈ zG := zG_mem (List.mem_append_right _ (List.mem_of_getElem? h)) hg
theorem zP_mem {k : Nat} {w : Cond} (h : (k2_sels lw_privs)[k]? = some w) (hg : goodWord w = true) : w ∈ zG := zG_mem (List.mem_append_left _ (List.mem_of_getElem? h)) hg
theorem zG_good {c1 : Cond} (h1 : c1 ∈ zG) : GoodIn zG (c1 :: zG) := fun w hw => by
  rcases List.mem_cons.mp hw with e | h
  · rw [e]; exact ⟨h1, good_of_word (List.mem_filter.mp h1).2⟩
  · exact ⟨h, good_of_word (List.mem_filter.mp h).2⟩
def zR_P : String := "ShareRuns$Plan"
def zR_Q : String := "ShareRuns$Race"
def zR_S : String := "ShareRuns"
def zR_M : String := "ShareRunsModel"
def zR_L : String := "ShareRunsLaw"
def zR_F : String := "java/util/Arrays"
def zF_P : u_T := fun k => match k with
  | 0 => ("ShareRuns$Plan", "size", "I", true)
  | 1 => ("ShareRuns$Plan", "work", "[I", true)
  | 2 => ("ShareRuns$Plan", "worth", "[J", true)
  | 3 => ("ShareRuns$Plan", "settling", "[Z", true)
  | _ => ("ShareRuns$Plan", "faulty", "[I", true)
def zt_P : Nat → FieldType := fun k => match k with
  | 0 => .int
  | 1 => .array .int
  | 2 => .array .long
  | 3 => .array .boolean
  | _ => .array .int
theorem zn_P : ∀ a, a < 5 → ∀ b, b < 5 → a ≠ b → (zF_P a).2.1 ≠ (zF_P b).2.1 := by decide +kernel
theorem zt_P_ok : ∀ k, k < 5 → parseFieldDescriptor (zF_P k).2.2.1 = some (zt_P k) := by decide +kernel
theorem zi0_P : ∀ w ∈ u_ws zR_P zF_P 5, w ∈ lw_tbl ∧ goodWord w = true := by decide +kernel
theorem zi_P : ∀ w ∈ u_ws zR_P zF_P 5, w ∈ zG := fun w h => zG_mem (zi0_P w h).1 (zi0_P w h).2
def zF_Q : u_T := fun k => match k with
  | 0 => ("ShareRuns$Race", "plan", "LShareRuns$Plan;", true)
  | 1 => ("ShareRuns$Race", "held", "[I", true)
  | 2 => ("ShareRuns$Race", "moves", "[I", true)
  | 3 => ("ShareRuns$Race", "ticksOfTry", "[I", true)
  | 4 => ("ShareRuns$Race", "spent", "[I", true)
  | 5 => ("ShareRuns$Race", "failures", "[I", true)
  | 6 => ("ShareRuns$Race", "doer", "[I", true)
  | 7 => ("ShareRuns$Race", "doneTick", "[I", true)
  | 8 => ("ShareRuns$Race", "order", "[I", true)
  | 9 => ("ShareRuns$Race", "crew", "I", false)
  | 10 => ("ShareRuns$Race", "holders", "I", false)
  | 11 => ("ShareRuns$Race", "next", "I", false)
  | 12 => ("ShareRuns$Race", "barrier", "I", false)
  | 13 => ("ShareRuns$Race", "places", "I", false)
  | 14 => ("ShareRuns$Race", "tick", "I", false)
  | _ => ("ShareRuns$Race", "\x72", "J", false)
def zt_Q : Nat → FieldType := fun k => match k with
  | 0 => .object "ShareRuns$Plan"
  | 1 => .array .int
  | 2 => .array .int
  | 3 => .array .int
  | 4 => .array .int
  | 5 => .array .int
  | 6 => .array .int
  | 7 => .array .int
  | 8 => .array .int
  | 9 => .int
  | 10 => .int
  | 11 => .int
  | 12 => .int
  | 13 => .int
  | 14 => .int
  | _ => .long
theorem zn_Q : ∀ a, a < 16 → ∀ b, b < 16 → a ≠ b → (zF_Q a).2.1 ≠ (zF_Q b).2.1 := by decide +kernel
theorem zt_Q_ok : ∀ k, k < 16 → parseFieldDescriptor (zF_Q k).2.2.1 = some (zt_Q k) := by decide +kernel
theorem zi0_Q : ∀ w ∈ u_ws zR_Q zF_Q 16, w ∈ lw_tbl ∧ goodWord w = true := by decide +kernel
theorem zi_Q : ∀ w ∈ u_ws zR_Q zF_Q 16, w ∈ zG := fun w h => zG_mem (zi0_Q w h).1 (zi0_Q w h).2
def zF_S : u_T := fun k => match k with
  | 0 => ("ShareRuns", "plan", "LShareRuns$Plan;", true)
  | 1 => ("ShareRuns", "race", "LShareRuns$Race;", true)
  | _ => ("ShareRuns", "known", "Z", false)
def zt_S : Nat → FieldType := fun k => match k with
  | 0 => .object "ShareRuns$Plan"
  | 1 => .object "ShareRuns$Race"
  | _ => .boolean
theorem zn_S : ∀ a, a < 3 → ∀ b, b < 3 → a ≠ b → (zF_S a).2.1 ≠ (zF_S b).2.1 := by decide +kernel
theorem zt_S_ok : ∀ k, k < 3 → parseFieldDescriptor (zF_S k).2.2.1 = some (zt_S k) := by decide +kernel
theorem zi0_S : ∀ w ∈ u_ws zR_S zF_S 3, w ∈ lw_tbl ∧ goodWord w = true := by decide +kernel
theorem zi_S : ∀ w ∈ u_ws zR_S zF_S 3, w ∈ zG := fun w h => zG_mem (zi0_S w h).1 (zi0_S w h).2
def zF_M : u_T := fun k => match k with
  | 0 => ("ShareRunsModel", "thrown", "I", false)
  | 1 => ("ShareRunsModel", "shares", "I", true)
  | 2 => ("ShareRunsModel", "work", "[I", true)
  | 3 => ("ShareRunsModel", "faults", "[I", true)
  | 4 => ("ShareRunsModel", "values", "[J", true)
  | 5 => ("ShareRunsModel", "settles", "[Z", true)
  | 6 => ("ShareRunsModel", "known", "Z", false)
  | 7 => ("ShareRunsModel", "spent", "[I", true)
  | 8 => ("ShareRunsModel", "doneAt", "[I", true)
  | 9 => ("ShareRunsModel", "doneBy", "[I", true)
  | 10 => ("ShareRunsModel", "holds", "[I", true)
  | 11 => ("ShareRunsModel", "moved", "[I", true)
  | 12 => ("ShareRunsModel", "row", "[I", true)
  | 13 => ("ShareRunsModel", "many", "I", false)
  | 14 => ("ShareRunsModel", "workers", "I", false)
  | _ => ("ShareRunsModel", "ticks", "I", false)
def zt_M : Nat → FieldType := fun k => match k with
  | 0 => .int
  | 1 => .int
  | 2 => .array .int
  | 3 => .array .int
  | 4 => .array .long
  | 5 => .array .boolean
  | 6 => .boolean
  | 7 => .array .int
  | 8 => .array .int
  | 9 => .array .int
  | 10 => .array .int
  | 11 => .array .int
  | 12 => .array .int
  | 13 => .int
  | 14 => .int
  | _ => .int
theorem zn_M : ∀ a, a < 16 → ∀ b, b < 16 → a ≠ b → (zF_M a).2.1 ≠ (zF_M b).2.1 := by decide +kernel
theorem zt_M_ok : ∀ k, k < 16 → parseFieldDescriptor (zF_M k).2.2.1 = some (zt_M k) := by decide +kernel
theorem zi0_M : ∀ w ∈ u_ws zR_M zF_M 16, w ∈ lw_tbl ∧ goodWord w = true := by decide +kernel
theorem zi_M : ∀ w ∈ u_ws zR_M zF_M 16, w ∈ zG := fun w h => zG_mem (zi0_M w h).1 (zi0_M w h).2
abbrev zcl : List vw_C := [(zR_P, zF_P, 5), (zR_Q, zF_Q, 16), (zR_S, zF_S, 3), (zR_M, zF_M, 16)]
abbrev zc_S_init : ByteArray := prog_1_method_1_code
def zy_S_init : MethodName := ⟨zR_S, "<init>", "(I)V"⟩
def zw_S_init : List Cond := .code zy_S_init zc_S_init 2 none :: zG
abbrev zc_S_value : ByteArray := prog_1_method_2_code
def zy_S_value : MethodName := ⟨zR_S, "value", "(IIJZ)Z"⟩
def zw_S_value : List Cond := .code zy_S_value zc_S_value 7 (some .boolean) :: zG
abbrev zc_S_faults : ByteArray := prog_1_method_3_code
def zy_S_faults : MethodName := ⟨zR_S, "faults", "(II)Z"⟩
def zw_S_faults : List Cond := .code zy_S_faults zc_S_faults 4 (some .boolean) :: zG
abbrev zc_S_run : ByteArray := prog_1_method_4_code
def zy_S_run : MethodName := ⟨zR_S, "run", "(IJI)I"⟩
def zw_S_run : List Cond := .code zy_S_run zc_S_run 5 (some .int) :: zG
abbrev zc_S_answer : ByteArray := prog_1_method_5_code
def zy_S_answer : MethodName := ⟨zR_S, "answer", "()J"⟩
def zw_S_answer : List Cond := .code zy_S_answer zc_S_answer 1 (some .long) :: zG
abbrev zc_S_ticks : ByteArray := prog_1_method_6_code
def zy_S_ticks : MethodName := ⟨zR_S, "ticks", "(I)I"⟩
def zw_S_ticks : List Cond := .code zy_S_ticks zc_S_ticks 2 (some .int) :: zG
abbrev zc_S_worked : ByteArray := prog_1_method_7_code
def zy_S_worked : MethodName := ⟨zR_S, "worked", "(I)I"⟩
def zw_S_worked : List Cond := .code zy_S_worked zc_S_worked 2 (some .int) :: zG
abbrev zc_S_done : ByteArray := prog_1_method_8_code
def zy_S_done : MethodName := ⟨zR_S, "done", "(I)I"⟩
def zw_S_done : List Cond := .code zy_S_done zc_S_done 2 (some .int) :: zG
abbrev zc_S_by : ByteArray := prog_1_method_9_code
def zy_S_by : MethodName := ⟨zR_S, "by", "(I)I"⟩
def zw_S_by : List Cond := .code zy_S_by zc_S_by 2 (some .int) :: zG
abbrev zc_S_failed : ByteArray := prog_1_method_10_code
def zy_S_failed : MethodName := ⟨zR_S, "failed", "(I)I"⟩
def zw_S_failed : List Cond := .code zy_S_failed zc_S_failed 2 (some .int) :: zG
abbrev zc_S_at : ByteArray := prog_1_method_11_code
def zy_S_at : MethodName := ⟨zR_S, "at", "(I)I"⟩
def zw_S_at : List Cond := .code zy_S_at zc_S_at 2 (some .int) :: zG
abbrev zc_S_count : ByteArray := prog_1_method_12_code
def zy_S_count : MethodName := ⟨zR_S, "count", "()I"⟩
def zw_S_count : List Cond := .code zy_S_count zc_S_count 1 (some .int) :: zG
abbrev zc_S_needKnown : ByteArray := prog_1_method_13_code
def zy_S_needKnown : MethodName := ⟨zR_S, "needKnown", "()V"⟩
def zw_S_needKnown : List Cond := .code zy_S_needKnown zc_S_needKnown 1 none :: zG
abbrev zc_S_needShare : ByteArray := prog_1_method_14_code
def zy_S_needShare : MethodName := ⟨zR_S, "needShare", "(I)V"⟩
def zw_S_needShare : List Cond := .code zy_S_needShare zc_S_needShare 2 none :: zG
abbrev zc_S_forgetIf : ByteArray := prog_1_method_15_code
def zy_S_forgetIf : MethodName := ⟨zR_S, "forgetIf", "(Z)V"⟩
def zw_S_forgetIf : List Cond := .code zy_S_forgetIf zc_S_forgetIf 2 none :: zG
abbrev zc_M_init : ByteArray := prog_5_method_1_code
def zy_M_init : MethodName := ⟨zR_M, "<init>", "(I)V"⟩
def zw_M_init : List Cond := .code zy_M_init zc_M_init 3 none :: zG
abbrev zc_M_thrown : ByteArray := prog_5_method_2_code
def zy_M_thrown : MethodName := ⟨zR_M, "thrown", "()I"⟩
def zw_M_thrown : List Cond := .code zy_M_thrown zc_M_thrown 1 (some .int) :: zG
abbrev zc_M_fails : ByteArray := prog_5_method_3_code
def zy_M_fails : MethodName := ⟨zR_M, "fails", "(ZZ)Z"⟩
def zw_M_fails : List Cond := .code zy_M_fails zc_M_fails 3 (some .boolean) :: zG
abbrev zc_M_isShare : ByteArray := prog_5_method_4_code
def zy_M_isShare : MethodName := ⟨zR_M, "isShare", "(I)Z"⟩
def zw_M_isShare : List Cond := .code zy_M_isShare zc_M_isShare 2 (some .boolean) :: zG
abbrev zc_M_value : ByteArray := prog_5_method_5_code
def zy_M_value : MethodName := ⟨zR_M, "value", "(IIJZ)Z"⟩
def zw_M_value : List Cond := .code zy_M_value zc_M_value 7 (some .boolean) :: zG
abbrev zc_M_faults : ByteArray := prog_5_method_6_code
def zy_M_faults : MethodName := ⟨zR_M, "faults", "(II)Z"⟩
def zw_M_faults : List Cond := .code zy_M_faults zc_M_faults 4 (some .boolean) :: zG
abbrev zc_M_isBehind : ByteArray := prog_5_method_7_code
def zy_M_isBehind : MethodName := ⟨zR_M, "isBehind", "(I)Z"⟩
def zw_M_isBehind : List Cond := .code zy_M_isBehind zc_M_isBehind 4 (some .boolean) :: zG
abbrev zc_M_isHeld : ByteArray := prog_5_method_8_code
def zy_M_isHeld : MethodName := ⟨zR_M, "isHeld", "(I)Z"⟩
def zw_M_isHeld : List Cond := .code zy_M_isHeld zc_M_isHeld 4 (some .boolean) :: zG
abbrev zc_M_waits : ByteArray := prog_5_method_9_code
def zy_M_waits : MethodName := ⟨zR_M, "waits", "()I"⟩
def zw_M_waits : List Cond := .code zy_M_waits zc_M_waits 2 (some .int) :: zG
abbrev zc_M_mover : ByteArray := prog_5_method_10_code
def zy_M_mover : MethodName := ⟨zR_M, "mover", "(IZ)I"⟩
def zw_M_mover : List Cond := .code zy_M_mover zc_M_mover 6 (some .int) :: zG
abbrev zc_M_movers : ByteArray := prog_5_method_11_code
def zy_M_movers : MethodName := ⟨zR_M, "movers", "(Z)I"⟩
def zw_M_movers : List Cond := .code zy_M_movers zc_M_movers 4 (some .int) :: zG
abbrev zc_M_tick : ByteArray := prog_5_method_12_code
def zy_M_tick : MethodName := ⟨zR_M, "tick", "(II)V"⟩
def zw_M_tick : List Cond := .code zy_M_tick zc_M_tick 5 none :: zG
abbrev zc_M_winner : ByteArray := prog_5_method_13_code
def zy_M_winner : MethodName := ⟨zR_M, "winner", "()I"⟩
def zw_M_winner : List Cond := .code zy_M_winner zc_M_winner 2 (some .int) :: zG
abbrev zc_M_run : ByteArray := prog_5_method_14_code
def zy_M_run : MethodName := ⟨zR_M, "run", "(IJI)I"⟩
def zw_M_run : List Cond := .code zy_M_run zc_M_run 9 (some .int) :: zG
abbrev zc_M_counts : ByteArray := prog_5_method_15_code
def zy_M_counts : MethodName := ⟨zR_M, "counts", "(I)Z"⟩
def zw_M_counts : List Cond := .code zy_M_counts zc_M_counts 3 (some .boolean) :: zG
abbrev zc_M_answer : ByteArray := prog_5_method_16_code
def zy_M_answer : MethodName := ⟨zR_M, "answer", "()J"⟩
def zw_M_answer : List Cond := .code zy_M_answer zc_M_answer 5 (some .long) :: zG
abbrev zc_M_ticks : ByteArray := prog_5_method_17_code
def zy_M_ticks : MethodName := ⟨zR_M, "ticks", "(I)I"⟩
def zw_M_ticks : List Cond := .code zy_M_ticks zc_M_ticks 4 (some .int) :: zG
abbrev zc_M_worked : ByteArray := prog_5_method_18_code
def zy_M_worked : MethodName := ⟨zR_M, "worked", "(I)I"⟩
def zw_M_worked : List Cond := .code zy_M_worked zc_M_worked 2 (some .int) :: zG
abbrev zc_M_done : ByteArray := prog_5_method_19_code
def zy_M_done : MethodName := ⟨zR_M, "done", "(I)I"⟩
def zw_M_done : List Cond := .code zy_M_done zc_M_done 2 (some .int) :: zG
abbrev zc_M_by : ByteArray := prog_5_method_20_code
def zy_M_by : MethodName := ⟨zR_M, "by", "(I)I"⟩
def zw_M_by : List Cond := .code zy_M_by zc_M_by 2 (some .int) :: zG
abbrev zc_M_failed : ByteArray := prog_5_method_21_code
def zy_M_failed : MethodName := ⟨zR_M, "failed", "(I)I"⟩
def zw_M_failed : List Cond := .code zy_M_failed zc_M_failed 3 (some .int) :: zG
abbrev zc_M_at : ByteArray := prog_5_method_22_code
def zy_M_at : MethodName := ⟨zR_M, "at", "(I)I"⟩
def zw_M_at : List Cond := .code zy_M_at zc_M_at 2 (some .int) :: zG
abbrev zc_M_count : ByteArray := prog_5_method_23_code
def zy_M_count : MethodName := ⟨zR_M, "count", "()I"⟩
def zw_M_count : List Cond := .code zy_M_count zc_M_count 1 (some .int) :: zG
abbrev zc_P_init : ByteArray := prog_2_method_1_code
def zy_P_init : MethodName := ⟨zR_P, "<init>", "(I)V"⟩
def zw_P_init : List Cond := .code zy_P_init zc_P_init 2 none :: zG
abbrev zc_P_size : ByteArray := prog_2_method_2_code
def zy_P_size : MethodName := ⟨zR_P, "size", "()I"⟩
def zw_P_size : List Cond := .code zy_P_size zc_P_size 1 (some .int) :: zG
abbrev zc_P_has : ByteArray := prog_2_method_3_code
def zy_P_has : MethodName := ⟨zR_P, "has", "(I)Z"⟩
def zw_P_has : List Cond := .code zy_P_has zc_P_has 2 (some .boolean) :: zG
abbrev zc_P_change : ByteArray := prog_2_method_4_code
def zy_P_change : MethodName := ⟨zR_P, "change", "(IIJZ)Z"⟩
def zw_P_change : List Cond := .code zy_P_change zc_P_change 7 (some .boolean) :: zG
abbrev zc_P_changeFaults : ByteArray := prog_2_method_5_code
def zy_P_changeFaults : MethodName := ⟨zR_P, "changeFaults", "(II)Z"⟩
def zw_P_changeFaults : List Cond := .code zy_P_changeFaults zc_P_changeFaults 4 (some .boolean) :: zG
abbrev zc_P_workOf : ByteArray := prog_2_method_6_code
def zy_P_workOf : MethodName := ⟨zR_P, "workOf", "(I)I"⟩
def zw_P_workOf : List Cond := .code zy_P_workOf zc_P_workOf 2 (some .int) :: zG
abbrev zc_P_faultsOf : ByteArray := prog_2_method_7_code
def zy_P_faultsOf : MethodName := ⟨zR_P, "faultsOf", "(I)I"⟩
def zw_P_faultsOf : List Cond := .code zy_P_faultsOf zc_P_faultsOf 2 (some .int) :: zG
abbrev zc_P_isSettling : ByteArray := prog_2_method_8_code
def zy_P_isSettling : MethodName := ⟨zR_P, "isSettling", "(I)Z"⟩
def zw_P_isSettling : List Cond := .code zy_P_isSettling zc_P_isSettling 2 (some .boolean) :: zG
abbrev zc_P_winner : ByteArray := prog_2_method_9_code
def zy_P_winner : MethodName := ⟨zR_P, "winner", "()I"⟩
def zw_P_winner : List Cond := .code zy_P_winner zc_P_winner 2 (some .int) :: zG
abbrev zc_P_isBehindWinner : ByteArray := prog_2_method_10_code
def zy_P_isBehindWinner : MethodName := ⟨zR_P, "isBehindWinner", "(I)Z"⟩
def zw_P_isBehindWinner : List Cond := .code zy_P_isBehindWinner zc_P_isBehindWinner 3 (some .boolean) :: zG
abbrev zc_P_outcome : ByteArray := prog_2_method_11_code
def zy_P_outcome : MethodName := ⟨zR_P, "outcome", "()J"⟩
def zw_P_outcome : List Cond := .code zy_P_outcome zc_P_outcome 2 (some .long) :: zG
abbrev zc_P_sumOfWorths : ByteArray := prog_2_method_12_code
def zy_P_sumOfWorths : MethodName := ⟨zR_P, "sumOfWorths", "()J"⟩
def zw_P_sumOfWorths : List Cond := .code zy_P_sumOfWorths zc_P_sumOfWorths 4 (some .long) :: zG
abbrev zc_Q_init : ByteArray := prog_3_method_1_code
def zy_Q_init : MethodName := ⟨zR_Q, "<init>", "(LShareRuns$Plan;)V"⟩
def zw_Q_init : List Cond := .code zy_Q_init zc_Q_init 2 none :: zG
abbrev zc_Q_begin : ByteArray := prog_3_method_2_code
def zy_Q_begin : MethodName := ⟨zR_Q, "begin", "(IJ)V"⟩
def zw_Q_begin : List Cond := .code zy_Q_begin zc_Q_begin 4 none :: zG
abbrev zc_Q_endsWithin : ByteArray := prog_3_method_3_code
def zy_Q_endsWithin : MethodName := ⟨zR_Q, "endsWithin", "(I)Z"⟩
def zw_Q_endsWithin : List Cond := .code zy_Q_endsWithin zc_Q_endsWithin 3 (some .boolean) :: zG
abbrev zc_Q_someShareWaits : ByteArray := prog_3_method_4_code
def zy_Q_someShareWaits : MethodName := ⟨zR_Q, "someShareWaits", "()Z"⟩
def zw_Q_someShareWaits : List Cond := .code zy_Q_someShareWaits zc_Q_someShareWaits 1 (some .boolean) :: zG
abbrev zc_Q_movers : ByteArray := prog_3_method_5_code
def zy_Q_movers : MethodName := ⟨zR_Q, "movers", "()I"⟩
def zw_Q_movers : List Cond := .code zy_Q_movers zc_Q_movers 1 (some .int) :: zG
abbrev zc_Q_oneTick : ByteArray := prog_3_method_6_code
def zy_Q_oneTick : MethodName := ⟨zR_Q, "oneTick", "()V"⟩
def zw_Q_oneTick : List Cond := .code zy_Q_oneTick zc_Q_oneTick 6 none :: zG
abbrev zc_Q_moverBehind : ByteArray := prog_3_method_7_code
def zy_Q_moverBehind : MethodName := ⟨zR_Q, "moverBehind", "(I)I"⟩
def zw_Q_moverBehind : List Cond := .code zy_Q_moverBehind zc_Q_moverBehind 4 (some .int) :: zG
abbrev zc_Q_takeNext : ByteArray := prog_3_method_8_code
def zy_Q_takeNext : MethodName := ⟨zR_Q, "takeNext", "(I)V"⟩
def zw_Q_takeNext : List Cond := .code zy_Q_takeNext zc_Q_takeNext 2 none :: zG
abbrev zc_Q_spendTick : ByteArray := prog_3_method_9_code
def zy_Q_spendTick : MethodName := ⟨zR_Q, "spendTick", "(I)Z"⟩
def zw_Q_spendTick : List Cond := .code zy_Q_spendTick zc_Q_spendTick 2 (some .boolean) :: zG
abbrev zc_Q_finish : ByteArray := prog_3_method_10_code
def zy_Q_finish : MethodName := ⟨zR_Q, "finish", "(II)V"⟩
def zw_Q_finish : List Cond := .code zy_Q_finish zc_Q_finish 3 none :: zG
abbrev zc_Q_dropBehind : ByteArray := prog_3_method_11_code
def zy_Q_dropBehind : MethodName := ⟨zR_Q, "dropBehind", "(I)V"⟩
def zw_Q_dropBehind : List Cond := .code zy_Q_dropBehind zc_Q_dropBehind 3 none :: zG
abbrev zc_Q_letGo : ByteArray := prog_3_method_12_code
def zy_Q_letGo : MethodName := ⟨zR_Q, "letGo", "(I)V"⟩
def zw_Q_letGo : List Cond := .code zy_Q_letGo zc_Q_letGo 2 none :: zG
abbrev zc_Q_countedTicks : ByteArray := prog_3_method_13_code
def zy_Q_countedTicks : MethodName := ⟨zR_Q, "countedTicks", "()I"⟩
def zw_Q_countedTicks : List Cond := .code zy_Q_countedTicks zc_Q_countedTicks 5 (some .int) :: zG
abbrev zc_Q_allTicks : ByteArray := prog_3_method_14_code
def zy_Q_allTicks : MethodName := ⟨zR_Q, "allTicks", "()I"⟩
def zw_Q_allTicks : List Cond := .code zy_Q_allTicks zc_Q_allTicks 1 (some .int) :: zG
abbrev zc_Q_hasWorker : ByteArray := prog_3_method_15_code
def zy_Q_hasWorker : MethodName := ⟨zR_Q, "hasWorker", "(I)Z"⟩
def zw_Q_hasWorker : List Cond := .code zy_Q_hasWorker zc_Q_hasWorker 2 (some .boolean) :: zG
abbrev zc_Q_movesOf : ByteArray := prog_3_method_16_code
def zy_Q_movesOf : MethodName := ⟨zR_Q, "movesOf", "(I)I"⟩
def zw_Q_movesOf : List Cond := .code zy_Q_movesOf zc_Q_movesOf 2 (some .int) :: zG
abbrev zc_Q_hasPlace : ByteArray := prog_3_method_17_code
def zy_Q_hasPlace : MethodName := ⟨zR_Q, "hasPlace", "(I)Z"⟩
def zw_Q_hasPlace : List Cond := .code zy_Q_hasPlace zc_Q_hasPlace 2 (some .boolean) :: zG
abbrev zc_Q_shareInPlace : ByteArray := prog_3_method_18_code
def zy_Q_shareInPlace : MethodName := ⟨zR_Q, "shareInPlace", "(I)I"⟩
def zw_Q_shareInPlace : List Cond := .code zy_Q_shareInPlace zc_Q_shareInPlace 2 (some .int) :: zG
abbrev zc_Q_doerOf : ByteArray := prog_3_method_19_code
def zy_Q_doerOf : MethodName := ⟨zR_Q, "doerOf", "(I)I"⟩
def zw_Q_doerOf : List Cond := .code zy_Q_doerOf zc_Q_doerOf 2 (some .int) :: zG
abbrev zc_Q_failuresOf : ByteArray := prog_3_method_20_code
def zy_Q_failuresOf : MethodName := ⟨zR_Q, "failuresOf", "(I)I"⟩
def zw_Q_failuresOf : List Cond := .code zy_Q_failuresOf zc_Q_failuresOf 2 (some .int) :: zG
abbrev zc_Q_doneTickOf : ByteArray := prog_3_method_21_code
def zy_Q_doneTickOf : MethodName := ⟨zR_Q, "doneTickOf", "(I)I"⟩
def zw_Q_doneTickOf : List Cond := .code zy_Q_doneTickOf zc_Q_doneTickOf 2 (some .int) :: zG
abbrev zc_L_cell : ByteArray := method_2_code
def zy_L_cell : MethodName := ⟨zR_L, "cell", "([II)I"⟩
def zw_L_cell : List Cond := .code zy_L_cell zc_L_cell 2 (some .int) :: zG
abbrev zc_L_value : ByteArray := method_3_code
def zy_L_value : MethodName := ⟨zR_L, "value", "(LShareRuns;IIJZ[J)I"⟩
abbrev zc_L_faults : ByteArray := method_4_code
def zy_L_faults : MethodName := ⟨zR_L, "faults", "(LShareRuns;II[J)I"⟩
abbrev zc_L_run : ByteArray := method_5_code
def zy_L_run : MethodName := ⟨zR_L, "run", "(LShareRuns;IJI[J)I"⟩
abbrev zc_L_answer : ByteArray := method_6_code
def zy_L_answer : MethodName := ⟨zR_L, "answer", "(LShareRuns;[J)I"⟩
abbrev zc_L_ticks : ByteArray := method_7_code
def zy_L_ticks : MethodName := ⟨zR_L, "ticks", "(LShareRuns;I[J)I"⟩
abbrev zc_L_worked : ByteArray := method_8_code
def zy_L_worked : MethodName := ⟨zR_L, "worked", "(LShareRuns;I[J)I"⟩
abbrev zc_L_done : ByteArray := method_9_code
def zy_L_done : MethodName := ⟨zR_L, "done", "(LShareRuns;I[J)I"⟩
abbrev zc_L_by : ByteArray := method_10_code
def zy_L_by : MethodName := ⟨zR_L, "by", "(LShareRuns;I[J)I"⟩
abbrev zc_L_failed : ByteArray := method_11_code
def zy_L_failed : MethodName := ⟨zR_L, "failed", "(LShareRuns;I[J)I"⟩
abbrev zc_L_at : ByteArray := method_12_code
def zy_L_at : MethodName := ⟨zR_L, "at", "(LShareRuns;I[J)I"⟩
abbrev zc_L_law : ByteArray := code
def zy_L_law : MethodName := ⟨zR_L, "law", "([I)Z"⟩
abbrev zc_F_fill : ByteArray := prog_14_method_103_code
def zy_F_fill : MethodName := ⟨zR_F, "fill", "([II)V"⟩
def zw_F_fill : List Cond := .code zy_F_fill zc_F_fill 4 none :: zG
