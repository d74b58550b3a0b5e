section
-- ===== PART A: goes FIRST, ahead of the names: the tables' words, and 'selects' of the private methods out of them =====
/-- a private method of a class that the tables say can be made, by its rows of tables_1 -/
def lw_okq (q : MethodName × Nat) : Prop := (q.1.cls ≠ "java/lang/invoke/MethodHandle" ∧ q.1.cls ≠ "java/lang/invoke/VarHandle") ∧ Cond.instantiable q.1.cls q.2 ∈ tables_1 ∧ Cond.privateMethod q.1 ∈ tables_1 ∧ Cond.instanceMethod q.1 ∈ tables_1
theorem lw_p0 : lw_okq (⟨"ShareRuns", "needShare", "(I)V"⟩, 3) := ⟨⟨by decide +kernel, by decide +kernel⟩, List.mem_of_getElem? (i := 14) (by decide +kernel), List.mem_of_getElem? (i := 141) (by decide +kernel), List.mem_of_getElem? (i := 142) (by decide +kernel)⟩
theorem lw_p1 : lw_okq (⟨"java/lang/Throwable", "fillInStackTrace", "(I)Ljava/lang/Throwable;"⟩, 6) := ⟨⟨by decide +kernel, by decide +kernel⟩, List.mem_of_getElem? (i := 187) (by decide +kernel), List.mem_of_getElem? (i := 185) (by decide +kernel), List.mem_of_getElem? (i := 186) (by decide +kernel)⟩
theorem lw_p2 : lw_okq (⟨"ShareRuns", "forgetIf", "(Z)V"⟩, 3) := ⟨⟨by decide +kernel, by decide +kernel⟩, List.mem_of_getElem? (i := 14) (by decide +kernel), List.mem_of_getElem? (i := 238) (by decide +kernel), List.mem_of_getElem? (i := 239) (by decide +kernel)⟩
theorem lw_p3 : lw_okq (⟨"ShareRuns$Race", "movers", "()I"⟩, 16) := ⟨⟨by decide +kernel, by decide +kernel⟩, List.mem_of_getElem? (i := 56) (by decide +kernel), List.mem_of_getElem? (i := 275) (by decide +kernel), List.mem_of_getElem? (i := 276) (by decide +kernel)⟩
theorem lw_p4 : lw_okq (⟨"ShareRuns$Race", "someShareWaits", "()Z"⟩, 16) := ⟨⟨by decide +kernel, by decide +kernel⟩, List.mem_of_getElem? (i := 56) (by decide +kernel), List.mem_of_getElem? (i := 279) (by decide +kernel), List.mem_of_getElem? (i := 280) (by decide +kernel)⟩
theorem lw_p5 : lw_okq (⟨"ShareRuns$Race", "oneTick", "()V"⟩, 16) := ⟨⟨by decide +kernel, by decide +kernel⟩, List.mem_of_getElem? (i := 56) (by decide +kernel), List.mem_of_getElem? (i := 283) (by decide +kernel), List.mem_of_getElem? (i := 284) (by decide +kernel)⟩
theorem lw_p6 : lw_okq (⟨"ShareRuns$Race", "moverBehind", "(I)I"⟩, 16) := ⟨⟨by decide +kernel, by decide +kernel⟩, List.mem_of_getElem? (i := 56) (by decide +kernel), List.mem_of_getElem? (i := 289) (by decide +kernel), List.mem_of_getElem? (i := 290) (by decide +kernel)⟩
theorem lw_p7 : lw_okq (⟨"ShareRuns$Race", "takeNext", "(I)V"⟩, 16) := ⟨⟨by decide +kernel, by decide +kernel⟩, List.mem_of_getElem? (i := 56) (by decide +kernel), List.mem_of_getElem? (i := 297) (by decide +kernel), List.mem_of_getElem? (i := 298) (by decide +kernel)⟩
theorem lw_p8 : lw_okq (⟨"ShareRuns$Race", "spendTick", "(I)Z"⟩, 16) := ⟨⟨by decide +kernel, by decide +kernel⟩, List.mem_of_getElem? (i := 56) (by decide +kernel), List.mem_of_getElem? (i := 301) (by decide +kernel), List.mem_of_getElem? (i := 302) (by decide +kernel)⟩
theorem lw_p9 : lw_okq (⟨"ShareRuns$Race", "finish", "(II)V"⟩, 16) := ⟨⟨by decide +kernel, by decide +kernel⟩, List.mem_of_getElem? (i := 56) (by decide +kernel), List.mem_of_getElem? (i := 314) (by decide +kernel), List.mem_of_getElem? (i := 315) (by decide +kernel)⟩
theorem lw_p10 : lw_okq (⟨"ShareRuns$Race", "letGo", "(I)V"⟩, 16) := ⟨⟨by decide +kernel, by decide +kernel⟩, List.mem_of_getElem? (i := 56) (by decide +kernel), List.mem_of_getElem? (i := 318) (by decide +kernel), List.mem_of_getElem? (i := 319) (by decide +kernel)⟩
theorem lw_p11 : lw_okq (⟨"ShareRuns$Race", "dropBehind", "(I)V"⟩, 16) := ⟨⟨by decide +kernel, by decide +kernel⟩, List.mem_of_getElem? (i := 56) (by decide +kernel), List.mem_of_getElem? (i := 326) (by decide +kernel), List.mem_of_getElem? (i := 327) (by decide +kernel)⟩
theorem lw_p12 : lw_okq (⟨"ShareRuns", "needKnown", "()V"⟩, 3) := ⟨⟨by decide +kernel, by decide +kernel⟩, List.mem_of_getElem? (i := 14) (by decide +kernel), List.mem_of_getElem? (i := 342) (by decide +kernel), List.mem_of_getElem? (i := 343) (by decide +kernel)⟩
theorem lw_p13 : lw_okq (⟨"ShareRuns$Plan", "sumOfWorths", "()J"⟩, 5) := ⟨⟨by decide +kernel, by decide +kernel⟩, List.mem_of_getElem? (i := 22) (by decide +kernel), List.mem_of_getElem? (i := 367) (by decide +kernel), List.mem_of_getElem? (i := 368) (by decide +kernel)⟩
theorem lw_p14 : lw_okq (⟨"ShareRunsModel", "isShare", "(I)Z"⟩, 16) := ⟨⟨by decide +kernel, by decide +kernel⟩, List.mem_of_getElem? (i := 454) (by decide +kernel), List.mem_of_getElem? (i := 517) (by decide +kernel), List.mem_of_getElem? (i := 518) (by decide +kernel)⟩
theorem lw_p15 : lw_okq (⟨"ShareRunsModel", "fails", "(ZZ)Z"⟩, 16) := ⟨⟨by decide +kernel, by decide +kernel⟩, List.mem_of_getElem? (i := 454) (by decide +kernel), List.mem_of_getElem? (i := 521) (by decide +kernel), List.mem_of_getElem? (i := 522) (by decide +kernel)⟩
def lw_privs_1 : List (MethodName × Nat) := [(⟨"ShareRuns", "needShare", "(I)V"⟩, 3), (⟨"java/lang/Throwable", "fillInStackTrace", "(I)Ljava/lang/Throwable;"⟩, 6), (⟨"ShareRuns", "forgetIf", "(Z)V"⟩, 3), (⟨"ShareRuns$Race", "movers", "()I"⟩, 16), (⟨"ShareRuns$Race", "someShareWaits", "()Z"⟩, 16), (⟨"ShareRuns$Race", "oneTick", "()V"⟩, 16), (⟨"ShareRuns$Race", "moverBehind", "(I)I"⟩, 16), (⟨"ShareRuns$Race", "takeNext", "(I)V"⟩, 16), (⟨"ShareRuns$Race", "spendTick", "(I)Z"⟩, 16), (⟨"ShareRuns$Race", "finish", "(II)V"⟩, 16), (⟨"ShareRuns$Race", "letGo", "(I)V"⟩, 16), (⟨"ShareRuns$Race", "dropBehind", "(I)V"⟩, 16), (⟨"ShareRuns", "needKnown", "()V"⟩, 3), (⟨"ShareRuns$Plan", "sumOfWorths", "()J"⟩, 5), (⟨"ShareRunsModel", "isShare", "(I)Z"⟩, 16), (⟨"ShareRunsModel", "fails", "(ZZ)Z"⟩, 16)]
theorem lw_r1 : ∀ q ∈ lw_privs_1, lw_okq q := List.forall_mem_cons.mpr ⟨lw_p0, List.forall_mem_cons.mpr ⟨lw_p1, List.forall_mem_cons.mpr ⟨lw_p2, List.forall_mem_cons.mpr ⟨lw_p3, List.forall_mem_cons.mpr ⟨lw_p4, List.forall_mem_cons.mpr ⟨lw_p5, List.forall_mem_cons.mpr ⟨lw_p6, List.forall_mem_cons.mpr ⟨lw_p7, List.forall_mem_cons.mpr ⟨lw_p8, List.forall_mem_cons.mpr ⟨lw_p9, List.forall_mem_cons.mpr ⟨lw_p10, List.forall_mem_cons.mpr ⟨lw_p11, List.forall_mem_cons.mpr ⟨lw_p12, List.forall_mem_cons.mpr ⟨lw_p13, List.forall_mem_cons.mpr ⟨lw_p14, List.forall_mem_cons.mpr ⟨lw_p15, fun _ h => absurd h List.not_mem_nil⟩⟩⟩⟩⟩⟩⟩⟩⟩⟩⟩⟩⟩⟩⟩⟩
theorem lw_p16 : lw_okq (⟨"ShareRunsModel", "waits", "()I"⟩, 16) := ⟨⟨by decide +kernel, by decide +kernel⟩, List.mem_of_getElem? (i := 454) (by decide +kernel), List.mem_of_getElem? (i := 533) (by decide +kernel), List.mem_of_getElem? (i := 534) (by decide +kernel)⟩
theorem lw_p17 : lw_okq (⟨"ShareRunsModel", "isHeld", "(I)Z"⟩, 16) := ⟨⟨by decide +kernel, by decide +kernel⟩, List.mem_of_getElem? (i := 454) (by decide +kernel), List.mem_of_getElem? (i := 537) (by decide +kernel), List.mem_of_getElem? (i := 538) (by decide +kernel)⟩
theorem lw_p18 : lw_okq (⟨"ShareRunsModel", "isBehind", "(I)Z"⟩, 16) := ⟨⟨by decide +kernel, by decide +kernel⟩, List.mem_of_getElem? (i := 454) (by decide +kernel), List.mem_of_getElem? (i := 541) (by decide +kernel), List.mem_of_getElem? (i := 542) (by decide +kernel)⟩
theorem lw_p19 : lw_okq (⟨"ShareRunsModel", "movers", "(Z)I"⟩, 16) := ⟨⟨by decide +kernel, by decide +kernel⟩, List.mem_of_getElem? (i := 454) (by decide +kernel), List.mem_of_getElem? (i := 545) (by decide +kernel), List.mem_of_getElem? (i := 546) (by decide +kernel)⟩
theorem lw_p20 : lw_okq (⟨"ShareRunsModel", "mover", "(IZ)I"⟩, 16) := ⟨⟨by decide +kernel, by decide +kernel⟩, List.mem_of_getElem? (i := 454) (by decide +kernel), List.mem_of_getElem? (i := 551) (by decide +kernel), List.mem_of_getElem? (i := 552) (by decide +kernel)⟩
theorem lw_p21 : lw_okq (⟨"ShareRunsModel", "tick", "(II)V"⟩, 16) := ⟨⟨by decide +kernel, by decide +kernel⟩, List.mem_of_getElem? (i := 454) (by decide +kernel), List.mem_of_getElem? (i := 555) (by decide +kernel), List.mem_of_getElem? (i := 556) (by decide +kernel)⟩
theorem lw_p22 : lw_okq (⟨"ShareRunsModel", "winner", "()I"⟩, 16) := ⟨⟨by decide +kernel, by decide +kernel⟩, List.mem_of_getElem? (i := 454) (by decide +kernel), List.mem_of_getElem? (i := 559) (by decide +kernel), List.mem_of_getElem? (i := 560) (by decide +kernel)⟩
theorem lw_p23 : lw_okq (⟨"ShareRunsModel", "counts", "(I)Z"⟩, 16) := ⟨⟨by decide +kernel, by decide +kernel⟩, List.mem_of_getElem? (i := 454) (by decide +kernel), List.mem_of_getElem? (i := 571) (by decide +kernel), List.mem_of_getElem? (i := 572) (by decide +kernel)⟩
def lw_privs_2 : List (MethodName × Nat) := [(⟨"ShareRunsModel", "waits", "()I"⟩, 16), (⟨"ShareRunsModel", "isHeld", "(I)Z"⟩, 16), (⟨"ShareRunsModel", "isBehind", "(I)Z"⟩, 16), (⟨"ShareRunsModel", "movers", "(Z)I"⟩, 16), (⟨"ShareRunsModel", "mover", "(IZ)I"⟩, 16), (⟨"ShareRunsModel", "tick", "(II)V"⟩, 16), (⟨"ShareRunsModel", "winner", "()I"⟩, 16), (⟨"ShareRunsModel", "counts", "(I)Z"⟩, 16)]
theorem lw_r2 : ∀ q ∈ lw_privs_2, lw_okq q := List.forall_mem_cons.mpr ⟨lw_p16, List.forall_mem_cons.mpr ⟨lw_p17, List.forall_mem_cons.mpr ⟨lw_p18, List.forall_mem_cons.mpr ⟨lw_p19, List.forall_mem_cons.mpr ⟨lw_p20, List.forall_mem_cons.mpr ⟨lw_p21, List.forall_mem_cons.mpr ⟨lw_p22, List.forall_mem_cons.mpr ⟨lw_p23, fun _ h => absurd h List.not_mem_nil⟩⟩⟩⟩⟩⟩⟩⟩
def lw_privs : List (MethodName × Nat) := lw_privs_1 ++ (lw_privs_2)
def lw_tbl : List Cond := k2_sels lw_privs ++ tables_1
theorem lw_privs_ok : ∀ q ∈ lw_privs, lw_okq q := by
  show ∀ q ∈ lw_privs_1 ++ (lw_privs_2), lw_okq q
  exact List.forall_mem_append.mpr ⟨lw_r1, lw_r2⟩
/-- the tables' words that a call keeps -/
def zG : List Cond := lw_tbl.filter goodWord
theorem zG_mem {w : Cond} (h : w ∈ lw_tbl) (hg : goodWord w = true) : w ∈ zG := List.mem_filter.mpr ⟨h, hg⟩
theorem zT_mem {k : Nat} {w : Cond} (h : tables_1[k]? = some w) (hg : goodWord w = true) : w ∈ zG := zG_mem (List.mem_append_right _ (List.mem_of_getElem? h)) hg
theorem zP_mem {k : Nat} {w : Cond} (h : (k2_sels lw_privs)[k]? = some w) (hg : goodWord w = true) : w ∈ zG := zG_mem (List.mem_append_left _ (List.mem_of_getElem? h)) hg
theorem zG_good {c1 : Cond} (h1 : c1 ∈ zG) : GoodIn zG (c1 :: zG) := fun w hw => by
  rcases List.mem_cons.mp hw with e | h
  · rw [e]; exact ⟨h1, good_of_word (List.mem_filter.mp h1).2⟩
  · exact ⟨h, good_of_word (List.mem_filter.mp h).2⟩
def zR_P : String := "ShareRuns$Plan"
def zR_Q : String := "ShareRuns$Race"
def zR_S : String := "ShareRuns"
def zR_M : String := "ShareRunsModel"
def zR_L : String := "ShareRunsLaw"
def zR_F : String := "java/util/Arrays"
def zF_P : u_T := fun k => match k with
  | 0 => ("ShareRuns$Plan", "size", "I", true)
  | 1 => ("ShareRuns$Plan", "work", "[I", true)
  | 2 => ("ShareRuns$Plan", "worth", "[J", true)
  | 3 => ("ShareRuns$Plan", "settling", "[Z", true)
  | _ => ("ShareRuns$Plan", "faulty", "[I", true)
def zt_P : Nat → FieldType := fun k => match k with
  | 0 => .int
  | 1 => .array .int
  | 2 => .array .long
  | 3 => .array .boolean
  | _ => .array .int
theorem zn_P : ∀ a, a < 5 → ∀ b, b < 5 → a ≠ b → (zF_P a).2.1 ≠ (zF_P b).2.1 := by decide +kernel
theorem zt_P_ok : ∀ k, k < 5 → parseFieldDescriptor (zF_P k).2.2.1 = some (zt_P k) := by decide +kernel
theorem zi0_P : ∀ w ∈ u_ws zR_P zF_P 5, w ∈ lw_tbl ∧ goodWord w = true := by decide +kernel
theorem zi_P : ∀ w ∈ u_ws zR_P zF_P 5, w ∈ zG := fun w h => zG_mem (zi0_P w h).1 (zi0_P w h).2
def zF_Q : u_T := fun k => match k with
  | 0 => ("ShareRuns$Race", "plan", "LShareRuns$Plan;", true)
  | 1 => ("ShareRuns$Race", "held", "[I", true)
  | 2 => ("ShareRuns$Race", "moves", "[I", true)
  | 3 => ("ShareRuns$Race", "ticksOfTry", "[I", true)
  | 4 => ("ShareRuns$Race", "spent", "[I", true)
  | 5 => ("ShareRuns$Race", "failures", "[I", true)
  | 6 => ("ShareRuns$Race", "doer", "[I", true)
  | 7 => ("ShareRuns$Race", "doneTick", "[I", true)
  | 8 => ("ShareRuns$Race", "order", "[I", true)
  | 9 => ("ShareRuns$Race", "crew", "I", false)
  | 10 => ("ShareRuns$Race", "holders", "I", false)
  | 11 => ("ShareRuns$Race", "next", "I", false)
  | 12 => ("ShareRuns$Race", "barrier", "I", false)
  | 13 => ("ShareRuns$Race", "places", "I", false)
  | 14 => ("ShareRuns$Race", "tick", "I", false)
  | _ => ("ShareRuns$Race", "\x72", "J", false)
def zt_Q : Nat → FieldType := fun k => match k with
  | 0 => .object "ShareRuns$Plan"
  | 1 => .array .int
  | 2 => .array .int
  | 3 => .array .int
  | 4 => .array .int
  | 5 => .array .int
  | 6 => .array .int
  | 7 => .array .int
  | 8 => .array .int
  | 9 => .int
  | 10 => .int
  | 11 => .int
  | 12 => .int
  | 13 => .int
  | 14 => .int
  | _ => .long
theorem zn_Q : ∀ a, a < 16 → ∀ b, b < 16 → a ≠ b → (zF_Q a).2.1 ≠ (zF_Q b).2.1 := by decide +kernel
theorem zt_Q_ok : ∀ k, k < 16 → parseFieldDescriptor (zF_Q k).2.2.1 = some (zt_Q k) := by decide +kernel
theorem zi0_Q : ∀ w ∈ u_ws zR_Q zF_Q 16, w ∈ lw_tbl ∧ goodWord w = true := by decide +kernel
theorem zi_Q : ∀ w ∈ u_ws zR_Q zF_Q 16, w ∈ zG := fun w h => zG_mem (zi0_Q w h).1 (zi0_Q w h).2
def zF_S : u_T := fun k => match k with
  | 0 => ("ShareRuns", "plan", "LShareRuns$Plan;", true)
  | 1 => ("ShareRuns", "race", "LShareRuns$Race;", true)
  | _ => ("ShareRuns", "known", "Z", false)
def zt_S : Nat → FieldType := fun k => match k with
  | 0 => .object "ShareRuns$Plan"
  | 1 => .object "ShareRuns$Race"
  | _ => .boolean
theorem zn_S : ∀ a, a < 3 → ∀ b, b < 3 → a ≠ b → (zF_S a).2.1 ≠ (zF_S b).2.1 := by decide +kernel
theorem zt_S_ok : ∀ k, k < 3 → parseFieldDescriptor (zF_S k).2.2.1 = some (zt_S k) := by decide +kernel
theorem zi0_S : ∀ w ∈ u_ws zR_S zF_S 3, w ∈ lw_tbl ∧ goodWord w = true := by decide +kernel
theorem zi_S : ∀ w ∈ u_ws zR_S zF_S 3, w ∈ zG := fun w h => zG_mem (zi0_S w h).1 (zi0_S w h).2
def zF_M : u_T := fun k => match k with
  | 0 => ("ShareRunsModel", "thrown", "I", false)
  | 1 => ("ShareRunsModel", "shares", "I", true)
  | 2 => ("ShareRunsModel", "work", "[I", true)
  | 3 => ("ShareRunsModel", "faults", "[I", true)
  | 4 => ("ShareRunsModel", "values", "[J", true)
  | 5 => ("ShareRunsModel", "settles", "[Z", true)
  | 6 => ("ShareRunsModel", "known", "Z", false)
  | 7 => ("ShareRunsModel", "spent", "[I", true)
  | 8 => ("ShareRunsModel", "doneAt", "[I", true)
  | 9 => ("ShareRunsModel", "doneBy", "[I", true)
  | 10 => ("ShareRunsModel", "holds", "[I", true)
  | 11 => ("ShareRunsModel", "moved", "[I", true)
  | 12 => ("ShareRunsModel", "row", "[I", true)
  | 13 => ("ShareRunsModel", "many", "I", false)
  | 14 => ("ShareRunsModel", "workers", "I", false)
  | _ => ("ShareRunsModel", "ticks", "I", false)
def zt_M : Nat → FieldType := fun k => match k with
  | 0 => .int
  | 1 => .int
  | 2 => .array .int
  | 3 => .array .int
  | 4 => .array .long
  | 5 => .array .boolean
  | 6 => .boolean
  | 7 => .array .int
  | 8 => .array .int
  | 9 => .array .int
  | 10 => .array .int
  | 11 => .array .int
  | 12 => .array .int
  | 13 => .int
  | 14 => .int
  | _ => .int
theorem zn_M : ∀ a, a < 16 → ∀ b, b < 16 → a ≠ b → (zF_M a).2.1 ≠ (zF_M b).2.1 := by decide +kernel
theorem zt_M_ok : ∀ k, k < 16 → parseFieldDescriptor (zF_M k).2.2.1 = some (zt_M k) := by decide +kernel
theorem zi0_M : ∀ w ∈ u_ws zR_M zF_M 16, w ∈ lw_tbl ∧ goodWord w = true := by decide +kernel
theorem zi_M : ∀ w ∈ u_ws zR_M zF_M 16, w ∈ zG := fun w h => zG_mem (zi0_M w h).1 (zi0_M w h).2
abbrev zcl : List vw_C := [(zR_P, zF_P, 5), (zR_Q, zF_Q, 16), (zR_S, zF_S, 3), (zR_M, zF_M, 16)]
abbrev zc_S_init : ByteArray := prog_1_method_1_code
def zy_S_init : MethodName := ⟨zR_S, "<init>", "(I)V"⟩
def zw_S_init : List Cond := .code zy_S_init zc_S_init 2 none :: zG
abbrev zc_S_value : ByteArray := prog_1_method_2_code
def zy_S_value : MethodName := ⟨zR_S, "value", "(IIJZ)Z"⟩
def zw_S_value : List Cond := .code zy_S_value zc_S_value 7 (some .boolean) :: zG
abbrev zc_S_faults : ByteArray := prog_1_method_3_code
def zy_S_faults : MethodName := ⟨zR_S, "faults", "(II)Z"⟩
def zw_S_faults : List Cond := .code zy_S_faults zc_S_faults 4 (some .boolean) :: zG
abbrev zc_S_run : ByteArray := prog_1_method_4_code
def zy_S_run : MethodName := ⟨zR_S, "run", "(IJI)I"⟩
def zw_S_run : List Cond := .code zy_S_run zc_S_run 5 (some .int) :: zG
abbrev zc_S_answer : ByteArray := prog_1_method_5_code
def zy_S_answer : MethodName := ⟨zR_S, "answer", "()J"⟩
def zw_S_answer : List Cond := .code zy_S_answer zc_S_answer 1 (some .long) :: zG
abbrev zc_S_ticks : ByteArray := prog_1_method_6_code
def zy_S_ticks : MethodName := ⟨zR_S, "ticks", "(I)I"⟩
def zw_S_ticks : List Cond := .code zy_S_ticks zc_S_ticks 2 (some .int) :: zG
abbrev zc_S_worked : ByteArray := prog_1_method_7_code
def zy_S_worked : MethodName := ⟨zR_S, "worked", "(I)I"⟩
def zw_S_worked : List Cond := .code zy_S_worked zc_S_worked 2 (some .int) :: zG
abbrev zc_S_done : ByteArray := prog_1_method_8_code
def zy_S_done : MethodName := ⟨zR_S, "done", "(I)I"⟩
def zw_S_done : List Cond := .code zy_S_done zc_S_done 2 (some .int) :: zG
abbrev zc_S_by : ByteArray := prog_1_method_9_code
def zy_S_by : MethodName := ⟨zR_S, "by", "(I)I"⟩
def zw_S_by : List Cond := .code zy_S_by zc_S_by 2 (some .int) :: zG
abbrev zc_S_failed : ByteArray := prog_1_method_10_code
def zy_S_failed : MethodName := ⟨zR_S, "failed", "(I)I"⟩
def zw_S_failed : List Cond := .code zy_S_failed zc_S_failed 2 (some .int) :: zG
abbrev zc_S_at : ByteArray := prog_1_method_11_code
def zy_S_at : MethodName := ⟨zR_S, "at", "(I)I"⟩
def zw_S_at : List Cond := .code zy_S_at zc_S_at 2 (some .int) :: zG
abbrev zc_S_count : ByteArray := prog_1_method_12_code
def zy_S_count : MethodName := ⟨zR_S, "count", "()I"⟩
def zw_S_count : List Cond := .code zy_S_count zc_S_count 1 (some .int) :: zG
abbrev zc_S_needKnown : ByteArray := prog_1_method_13_code
def zy_S_needKnown : MethodName := ⟨zR_S, "needKnown", "()V"⟩
def zw_S_needKnown : List Cond := .code zy_S_needKnown zc_S_needKnown 1 none :: zG
abbrev zc_S_needShare : ByteArray := prog_1_method_14_code
def zy_S_needShare : MethodName := ⟨zR_S, "needShare", "(I)V"⟩
def zw_S_needShare : List Cond := .code zy_S_needShare zc_S_needShare 2 none :: zG
abbrev zc_S_forgetIf : ByteArray := prog_1_method_15_code
def zy_S_forgetIf : MethodName := ⟨zR_S, "forgetIf", "(Z)V"⟩
def zw_S_forgetIf : List Cond := .code zy_S_forgetIf zc_S_forgetIf 2 none :: zG
abbrev zc_M_init : ByteArray := prog_5_method_1_code
def zy_M_init : MethodName := ⟨zR_M, "<init>", "(I)V"⟩
def zw_M_init : List Cond := .code zy_M_init zc_M_init 3 none :: zG
abbrev zc_M_thrown : ByteArray := prog_5_method_2_code
def zy_M_thrown : MethodName := ⟨zR_M, "thrown", "()I"⟩
def zw_M_thrown : List Cond := .code zy_M_thrown zc_M_thrown 1 (some .int) :: zG
abbrev zc_M_fails : ByteArray := prog_5_method_3_code
def zy_M_fails : MethodName := ⟨zR_M, "fails", "(ZZ)Z"⟩
def zw_M_fails : List Cond := .code zy_M_fails zc_M_fails 3 (some .boolean) :: zG
abbrev zc_M_isShare : ByteArray := prog_5_method_4_code
def zy_M_isShare : MethodName := ⟨zR_M, "isShare", "(I)Z"⟩
def zw_M_isShare : List Cond := .code zy_M_isShare zc_M_isShare 2 (some .boolean) :: zG
abbrev zc_M_value : ByteArray := prog_5_method_5_code
def zy_M_value : MethodName := ⟨zR_M, "value", "(IIJZ)Z"⟩
def zw_M_value : List Cond := .code zy_M_value zc_M_value 7 (some .boolean) :: zG
abbrev zc_M_faults : ByteArray := prog_5_method_6_code
def zy_M_faults : MethodName := ⟨zR_M, "faults", "(II)Z"⟩
def zw_M_faults : List Cond := .code zy_M_faults zc_M_faults 4 (some .boolean) :: zG
abbrev zc_M_isBehind : ByteArray := prog_5_method_7_code
def zy_M_isBehind : MethodName := ⟨zR_M, "isBehind", "(I)Z"⟩
def zw_M_isBehind : List Cond := .code zy_M_isBehind zc_M_isBehind 4 (some .boolean) :: zG
abbrev zc_M_isHeld : ByteArray := prog_5_method_8_code
def zy_M_isHeld : MethodName := ⟨zR_M, "isHeld", "(I)Z"⟩
def zw_M_isHeld : List Cond := .code zy_M_isHeld zc_M_isHeld 4 (some .boolean) :: zG
abbrev zc_M_waits : ByteArray := prog_5_method_9_code
def zy_M_waits : MethodName := ⟨zR_M, "waits", "()I"⟩
def zw_M_waits : List Cond := .code zy_M_waits zc_M_waits 2 (some .int) :: zG
abbrev zc_M_mover : ByteArray := prog_5_method_10_code
def zy_M_mover : MethodName := ⟨zR_M, "mover", "(IZ)I"⟩
def zw_M_mover : List Cond := .code zy_M_mover zc_M_mover 6 (some .int) :: zG
abbrev zc_M_movers : ByteArray := prog_5_method_11_code
def zy_M_movers : MethodName := ⟨zR_M, "movers", "(Z)I"⟩
def zw_M_movers : List Cond := .code zy_M_movers zc_M_movers 4 (some .int) :: zG
abbrev zc_M_tick : ByteArray := prog_5_method_12_code
def zy_M_tick : MethodName := ⟨zR_M, "tick", "(II)V"⟩
def zw_M_tick : List Cond := .code zy_M_tick zc_M_tick 5 none :: zG
abbrev zc_M_winner : ByteArray := prog_5_method_13_code
def zy_M_winner : MethodName := ⟨zR_M, "winner", "()I"⟩
def zw_M_winner : List Cond := .code zy_M_winner zc_M_winner 2 (some .int) :: zG
abbrev zc_M_run : ByteArray := prog_5_method_14_code
def zy_M_run : MethodName := ⟨zR_M, "run", "(IJI)I"⟩
def zw_M_run : List Cond := .code zy_M_run zc_M_run 9 (some .int) :: zG
abbrev zc_M_counts : ByteArray := prog_5_method_15_code
def zy_M_counts : MethodName := ⟨zR_M, "counts", "(I)Z"⟩
def zw_M_counts : List Cond := .code zy_M_counts zc_M_counts 3 (some .boolean) :: zG
abbrev zc_M_answer : ByteArray := prog_5_method_16_code
def zy_M_answer : MethodName := ⟨zR_M, "answer", "()J"⟩
def zw_M_answer : List Cond := .code zy_M_answer zc_M_answer 5 (some .long) :: zG
abbrev zc_M_ticks : ByteArray := prog_5_method_17_code
def zy_M_ticks : MethodName := ⟨zR_M, "ticks", "(I)I"⟩
def zw_M_ticks : List Cond := .code zy_M_ticks zc_M_ticks 4 (some .int) :: zG
abbrev zc_M_worked : ByteArray := prog_5_method_18_code
def zy_M_worked : MethodName := ⟨zR_M, "worked", "(I)I"⟩
def zw_M_worked : List Cond := .code zy_M_worked zc_M_worked 2 (some .int) :: zG
abbrev zc_M_done : ByteArray := prog_5_method_19_code
def zy_M_done : MethodName := ⟨zR_M, "done", "(I)I"⟩
def zw_M_done : List Cond := .code zy_M_done zc_M_done 2 (some .int) :: zG
abbrev zc_M_by : ByteArray := prog_5_method_20_code
def zy_M_by : MethodName := ⟨zR_M, "by", "(I)I"⟩
def zw_M_by : List Cond := .code zy_M_by zc_M_by 2 (some .int) :: zG
abbrev zc_M_failed : ByteArray := prog_5_method_21_code
def zy_M_failed : MethodName := ⟨zR_M, "failed", "(I)I"⟩
def zw_M_failed : List Cond := .code zy_M_failed zc_M_failed 3 (some .int) :: zG
abbrev zc_M_at : ByteArray := prog_5_method_22_code
def zy_M_at : MethodName := ⟨zR_M, "at", "(I)I"⟩
def zw_M_at : List Cond := .code zy_M_at zc_M_at 2 (some .int) :: zG
abbrev zc_M_count : ByteArray := prog_5_method_23_code
def zy_M_count : MethodName := ⟨zR_M, "count", "()I"⟩
def zw_M_count : List Cond := .code zy_M_count zc_M_count 1 (some .int) :: zG
abbrev zc_P_init : ByteArray := prog_2_method_1_code
def zy_P_init : MethodName := ⟨zR_P, "<init>", "(I)V"⟩
def zw_P_init : List Cond := .code zy_P_init zc_P_init 2 none :: zG
abbrev zc_P_size : ByteArray := prog_2_method_2_code
def zy_P_size : MethodName := ⟨zR_P, "size", "()I"⟩
def zw_P_size : List Cond := .code zy_P_size zc_P_size 1 (some .int) :: zG
abbrev zc_P_has : ByteArray := prog_2_method_3_code
def zy_P_has : MethodName := ⟨zR_P, "has", "(I)Z"⟩
def zw_P_has : List Cond := .code zy_P_has zc_P_has 2 (some .boolean) :: zG
abbrev zc_P_change : ByteArray := prog_2_method_4_code
def zy_P_change : MethodName := ⟨zR_P, "change", "(IIJZ)Z"⟩
def zw_P_change : List Cond := .code zy_P_change zc_P_change 7 (some .boolean) :: zG
abbrev zc_P_changeFaults : ByteArray := prog_2_method_5_code
def zy_P_changeFaults : MethodName := ⟨zR_P, "changeFaults", "(II)Z"⟩
def zw_P_changeFaults : List Cond := .code zy_P_changeFaults zc_P_changeFaults 4 (some .boolean) :: zG
abbrev zc_P_workOf : ByteArray := prog_2_method_6_code
def zy_P_workOf : MethodName := ⟨zR_P, "workOf", "(I)I"⟩
def zw_P_workOf : List Cond := .code zy_P_workOf zc_P_workOf 2 (some .int) :: zG
abbrev zc_P_faultsOf : ByteArray := prog_2_method_7_code
def zy_P_faultsOf : MethodName := ⟨zR_P, "faultsOf", "(I)I"⟩
def zw_P_faultsOf : List Cond := .code zy_P_faultsOf zc_P_faultsOf 2 (some .int) :: zG
abbrev zc_P_isSettling : ByteArray := prog_2_method_8_code
def zy_P_isSettling : MethodName := ⟨zR_P, "isSettling", "(I)Z"⟩
def zw_P_isSettling : List Cond := .code zy_P_isSettling zc_P_isSettling 2 (some .boolean) :: zG
abbrev zc_P_winner : ByteArray := prog_2_method_9_code
def zy_P_winner : MethodName := ⟨zR_P, "winner", "()I"⟩
def zw_P_winner : List Cond := .code zy_P_winner zc_P_winner 2 (some .int) :: zG
abbrev zc_P_isBehindWinner : ByteArray := prog_2_method_10_code
def zy_P_isBehindWinner : MethodName := ⟨zR_P, "isBehindWinner", "(I)Z"⟩
def zw_P_isBehindWinner : List Cond := .code zy_P_isBehindWinner zc_P_isBehindWinner 3 (some .boolean) :: zG
abbrev zc_P_outcome : ByteArray := prog_2_method_11_code
def zy_P_outcome : MethodName := ⟨zR_P, "outcome", "()J"⟩
def zw_P_outcome : List Cond := .code zy_P_outcome zc_P_outcome 2 (some .long) :: zG
abbrev zc_P_sumOfWorths : ByteArray := prog_2_method_12_code
def zy_P_sumOfWorths : MethodName := ⟨zR_P, "sumOfWorths", "()J"⟩
def zw_P_sumOfWorths : List Cond := .code zy_P_sumOfWorths zc_P_sumOfWorths 4 (some .long) :: zG
abbrev zc_Q_init : ByteArray := prog_3_method_1_code
def zy_Q_init : MethodName := ⟨zR_Q, "<init>", "(LShareRuns$Plan;)V"⟩
def zw_Q_init : List Cond := .code zy_Q_init zc_Q_init 2 none :: zG
abbrev zc_Q_begin : ByteArray := prog_3_method_2_code
def zy_Q_begin : MethodName := ⟨zR_Q, "begin", "(IJ)V"⟩
def zw_Q_begin : List Cond := .code zy_Q_begin zc_Q_begin 4 none :: zG
abbrev zc_Q_endsWithin : ByteArray := prog_3_method_3_code
def zy_Q_endsWithin : MethodName := ⟨zR_Q, "endsWithin", "(I)Z"⟩
def zw_Q_endsWithin : List Cond := .code zy_Q_endsWithin zc_Q_endsWithin 3 (some .boolean) :: zG
abbrev zc_Q_someShareWaits : ByteArray := prog_3_method_4_code
def zy_Q_someShareWaits : MethodName := ⟨zR_Q, "someShareWaits", "()Z"⟩
def zw_Q_someShareWaits : List Cond := .code zy_Q_someShareWaits zc_Q_someShareWaits 1 (some .boolean) :: zG
abbrev zc_Q_movers : ByteArray := prog_3_method_5_code
def zy_Q_movers : MethodName := ⟨zR_Q, "movers", "()I"⟩
def zw_Q_movers : List Cond := .code zy_Q_movers zc_Q_movers 1 (some .int) :: zG
abbrev zc_Q_oneTick : ByteArray := prog_3_method_6_code
def zy_Q_oneTick : MethodName := ⟨zR_Q, "oneTick", "()V"⟩
def zw_Q_oneTick : List Cond := .code zy_Q_oneTick zc_Q_oneTick 6 none :: zG
abbrev zc_Q_moverBehind : ByteArray := prog_3_method_7_code
def zy_Q_moverBehind : MethodName := ⟨zR_Q, "moverBehind", "(I)I"⟩
def zw_Q_moverBehind : List Cond := .code zy_Q_moverBehind zc_Q_moverBehind 4 (some .int) :: zG
abbrev zc_Q_takeNext : ByteArray := prog_3_method_8_code
def zy_Q_takeNext : MethodName := ⟨zR_Q, "takeNext", "(I)V"⟩
def zw_Q_takeNext : List Cond := .code zy_Q_takeNext zc_Q_takeNext 2 none :: zG
abbrev zc_Q_spendTick : ByteArray := prog_3_method_9_code
def zy_Q_spendTick : MethodName := ⟨zR_Q, "spendTick", "(I)Z"⟩
def zw_Q_spendTick : List Cond := .code zy_Q_spendTick zc_Q_spendTick 2 (some .boolean) :: zG
abbrev zc_Q_finish : ByteArray := prog_3_method_10_code
def zy_Q_finish : MethodName := ⟨zR_Q, "finish", "(II)V"⟩
def zw_Q_finish : List Cond := .code zy_Q_finish zc_Q_finish 3 none :: zG
abbrev zc_Q_dropBehind : ByteArray := prog_3_method_11_code
def zy_Q_dropBehind : MethodName := ⟨zR_Q, "dropBehind", "(I)V"⟩
def zw_Q_dropBehind : List Cond := .code zy_Q_dropBehind zc_Q_dropBehind 3 none :: zG
abbrev zc_Q_letGo : ByteArray := prog_3_method_12_code
def zy_Q_letGo : MethodName := ⟨zR_Q, "letGo", "(I)V"⟩
def zw_Q_letGo : List Cond := .code zy_Q_letGo zc_Q_letGo 2 none :: zG
abbrev zc_Q_countedTicks : ByteArray := prog_3_method_13_code
def zy_Q_countedTicks : MethodName := ⟨zR_Q, "countedTicks", "()I"⟩
def zw_Q_countedTicks : List Cond := .code zy_Q_countedTicks zc_Q_countedTicks 5 (some .int) :: zG
abbrev zc_Q_allTicks : ByteArray := prog_3_method_14_code
def zy_Q_allTicks : MethodName := ⟨zR_Q, "allTicks", "()I"⟩
def zw_Q_allTicks : List Cond := .code zy_Q_allTicks zc_Q_allTicks 1 (some .int) :: zG
abbrev zc_Q_hasWorker : ByteArray := prog_3_method_15_code
def zy_Q_hasWorker : MethodName := ⟨zR_Q, "hasWorker", "(I)Z"⟩
def zw_Q_hasWorker : List Cond := .code zy_Q_hasWorker zc_Q_hasWorker 2 (some .boolean) :: zG
abbrev zc_Q_movesOf : ByteArray := prog_3_method_16_code
def zy_Q_movesOf : MethodName := ⟨zR_Q, "movesOf", "(I)I"⟩
def zw_Q_movesOf : List Cond := .code zy_Q_movesOf zc_Q_movesOf 2 (some .int) :: zG
abbrev zc_Q_hasPlace : ByteArray := prog_3_method_17_code
def zy_Q_hasPlace : MethodName := ⟨zR_Q, "hasPlace", "(I)Z"⟩
def zw_Q_hasPlace : List Cond := .code zy_Q_hasPlace zc_Q_hasPlace 2 (some .boolean) :: zG
abbrev zc_Q_shareInPlace : ByteArray := prog_3_method_18_code
def zy_Q_shareInPlace : MethodName := ⟨zR_Q, "shareInPlace", "(I)I"⟩
def zw_Q_shareInPlace : List Cond := .code zy_Q_shareInPlace zc_Q_shareInPlace 2 (some .int) :: zG
abbrev zc_Q_doerOf : ByteArray := prog_3_method_19_code
def zy_Q_doerOf : MethodName := ⟨zR_Q, "doerOf", "(I)I"⟩
def zw_Q_doerOf : List Cond := .code zy_Q_doerOf zc_Q_doerOf 2 (some .int) :: zG
abbrev zc_Q_failuresOf : ByteArray := prog_3_method_20_code
def zy_Q_failuresOf : MethodName := ⟨zR_Q, "failuresOf", "(I)I"⟩
def zw_Q_failuresOf : List Cond := .code zy_Q_failuresOf zc_Q_failuresOf 2 (some .int) :: zG
abbrev zc_Q_doneTickOf : ByteArray := prog_3_method_21_code
def zy_Q_doneTickOf : MethodName := ⟨zR_Q, "doneTickOf", "(I)I"⟩
def zw_Q_doneTickOf : List Cond := .code zy_Q_doneTickOf zc_Q_doneTickOf 2 (some .int) :: zG
abbrev zc_L_cell : ByteArray := method_2_code
def zy_L_cell : MethodName := ⟨zR_L, "cell", "([II)I"⟩
def zw_L_cell : List Cond := .code zy_L_cell zc_L_cell 2 (some .int) :: zG
abbrev zc_L_value : ByteArray := method_3_code
def zy_L_value : MethodName := ⟨zR_L, "value", "(LShareRuns;IIJZ[J)I"⟩
abbrev zc_L_faults : ByteArray := method_4_code
def zy_L_faults : MethodName := ⟨zR_L, "faults", "(LShareRuns;II[J)I"⟩
abbrev zc_L_run : ByteArray := method_5_code
def zy_L_run : MethodName := ⟨zR_L, "run", "(LShareRuns;IJI[J)I"⟩
abbrev zc_L_answer : ByteArray := method_6_code
def zy_L_answer : MethodName := ⟨zR_L, "answer", "(LShareRuns;[J)I"⟩
abbrev zc_L_ticks : ByteArray := method_7_code
def zy_L_ticks : MethodName := ⟨zR_L, "ticks", "(LShareRuns;I[J)I"⟩
abbrev zc_L_worked : ByteArray := method_8_code
def zy_L_worked : MethodName := ⟨zR_L, "worked", "(LShareRuns;I[J)I"⟩
abbrev zc_L_done : ByteArray := method_9_code
def zy_L_done : MethodName := ⟨zR_L, "done", "(LShareRuns;I[J)I"⟩
abbrev zc_L_by : ByteArray := method_10_code
def zy_L_by : MethodName := ⟨zR_L, "by", "(LShareRuns;I[J)I"⟩
abbrev zc_L_failed : ByteArray := method_11_code
def zy_L_failed : MethodName := ⟨zR_L, "failed", "(LShareRuns;I[J)I"⟩
abbrev zc_L_at : ByteArray := method_12_code
def zy_L_at : MethodName := ⟨zR_L, "at", "(LShareRuns;I[J)I"⟩
abbrev zc_L_law : ByteArray := code
def zy_L_law : MethodName := ⟨zR_L, "law", "([I)Z"⟩
abbrev zc_F_fill : ByteArray := prog_14_method_103_code
def zy_F_fill : MethodName := ⟨zR_F, "fill", "([II)V"⟩
def zw_F_fill : List Cond := .code zy_F_fill zc_F_fill 4 none :: zG
end
section
theorem zq_0 : (Jvm.Cond.initialized "ShareRunsLaw") ∈ zG := zT_mem (k := 0) (by decide +kernel) (by decide +kernel)
theorem zq_1 : (Jvm.Cond.initialized "ShareRuns") ∈ zG := zT_mem (k := 1) (by decide +kernel) (by decide +kernel)
theorem zq_2 : (Jvm.Cond.initialized "ShareRuns$Plan") ∈ zG := zT_mem (k := 2) (by decide +kernel) (by decide +kernel)
theorem zq_3 : (Jvm.Cond.initialized "java/lang/Math") ∈ zG := zT_mem (k := 3) (by decide +kernel) (by decide +kernel)
theorem zq_4 : (Jvm.Cond.initialized "java/util/Arrays") ∈ zG := zT_mem (k := 4) (by decide +kernel) (by decide +kernel)
theorem zq_5 : (Jvm.Cond.initialized "ShareRuns$Race") ∈ zG := zT_mem (k := 5) (by decide +kernel) (by decide +kernel)
theorem zq_6 : (Jvm.Cond.initialized "ShareRunsModel") ∈ zG := zT_mem (k := 6) (by decide +kernel) (by decide +kernel)
theorem zq_7 : (Jvm.Cond.initialized "java/lang/Throwable") ∈ zG := zT_mem (k := 7) (by decide +kernel) (by decide +kernel)
theorem zq_8 : (Jvm.Cond.initialized "java/lang/Exception") ∈ zG := zT_mem (k := 8) (by decide +kernel) (by decide +kernel)
theorem zq_9 : (Jvm.Cond.initialized "java/lang/RuntimeException") ∈ zG := zT_mem (k := 9) (by decide +kernel) (by decide +kernel)
theorem zq_10 : (Jvm.Cond.initialized "java/lang/IndexOutOfBoundsException") ∈ zG := zT_mem (k := 10) (by decide +kernel) (by decide +kernel)
theorem zq_11 : (Jvm.Cond.initialized "java/lang/IllegalArgumentException") ∈ zG := zT_mem (k := 11) (by decide +kernel) (by decide +kernel)
theorem zq_12 : (Jvm.Cond.initialized "java/lang/IllegalStateException") ∈ zG := zT_mem (k := 12) (by decide +kernel) (by decide +kernel)
theorem zq_13 : (Jvm.Cond.classLink "ShareRunsLaw" (8 : Nat) "ShareRuns") ∈ zG := zT_mem (k := 13) (by decide +kernel) (by decide +kernel)
theorem zq_14 : (Jvm.Cond.instantiable "ShareRuns" (3 : Nat)) ∈ zG := zT_mem (k := 14) (by decide +kernel) (by decide +kernel)
theorem zq_15 : (Jvm.Cond.methodLink "ShareRunsLaw" (56 : Nat) ({ cls := "ShareRuns", name := "<init>", desc := "(I)V" } : Jvm.MethodName)) ∈ zG := zT_mem (k := 15) (by decide +kernel) (by decide +kernel)
theorem zq_16 : (Jvm.Cond.instanceMethod ({ cls := "ShareRuns", name := "<init>", desc := "(I)V" } : Jvm.MethodName)) ∈ zG := zT_mem (k := 16) (by decide +kernel) (by decide +kernel)
theorem zq_17 : (Jvm.Cond.code ({ cls := "ShareRuns", name := "<init>", desc := "(I)V" } : Jvm.MethodName) prog_1_method_1_code (2 : Nat) (Option.none : Option Jvm.ClassFile.FieldType)) ∈ zG := zT_mem (k := 17) (by decide +kernel) (by decide +kernel)
theorem zq_18 : (Jvm.Cond.methodLink "ShareRuns" (1 : Nat) ({ cls := "java/lang/Object", name := "<init>", desc := "()V" } : Jvm.MethodName)) ∈ zG := zT_mem (k := 18) (by decide +kernel) (by decide +kernel)
theorem zq_19 : (Jvm.Cond.instanceMethod ({ cls := "java/lang/Object", name := "<init>", desc := "()V" } : Jvm.MethodName)) ∈ zG := zT_mem (k := 19) (by decide +kernel) (by decide +kernel)
theorem zq_20 : (Jvm.Cond.code ({ cls := "java/lang/Object", name := "<init>", desc := "()V" } : Jvm.MethodName) object_method_1_code (1 : Nat) (Option.none : Option Jvm.ClassFile.FieldType)) ∈ zG := zT_mem (k := 20) (by decide +kernel) (by decide +kernel)
theorem zq_21 : (Jvm.Cond.classLink "ShareRuns" (7 : Nat) "ShareRuns$Plan") ∈ zG := zT_mem (k := 21) (by decide +kernel) (by decide +kernel)
theorem zq_22 : (Jvm.Cond.instantiable "ShareRuns$Plan" (5 : Nat)) ∈ zG := zT_mem (k := 22) (by decide +kernel) (by decide +kernel)
theorem zq_23 : (Jvm.Cond.methodLink "ShareRuns" (9 : Nat) ({ cls := "ShareRuns$Plan", name := "<init>", desc := "(I)V" } : Jvm.MethodName)) ∈ zG := zT_mem (k := 23) (by decide +kernel) (by decide +kernel)
theorem zq_24 : (Jvm.Cond.instanceMethod ({ cls := "ShareRuns$Plan", name := "<init>", desc := "(I)V" } : Jvm.MethodName)) ∈ zG := zT_mem (k := 24) (by decide +kernel) (by decide +kernel)
theorem zq_25 : (Jvm.Cond.code ({ cls := "ShareRuns$Plan", name := "<init>", desc := "(I)V" } : Jvm.MethodName) prog_2_method_1_code (2 : Nat) (Option.none : Option Jvm.ClassFile.FieldType)) ∈ zG := zT_mem (k := 25) (by decide +kernel) (by decide +kernel)
theorem zq_26 : (Jvm.Cond.methodLink "ShareRuns$Plan" (3 : Nat) ({ cls := "java/lang/Object", name := "<init>", desc := "()V" } : Jvm.MethodName)) ∈ zG := zT_mem (k := 26) (by decide +kernel) (by decide +kernel)
theorem zq_27 : (Jvm.Cond.methodLink "ShareRuns$Plan" (9 : Nat) ({ cls := "java/lang/Math", name := "min", desc := "(II)I" } : Jvm.MethodName)) ∈ zG := zT_mem (k := 27) (by decide +kernel) (by decide +kernel)
theorem zq_28 : (Jvm.Cond.static ({ cls := "java/lang/Math", name := "min", desc := "(II)I" } : Jvm.MethodName)) ∈ zG := zT_mem (k := 28) (by decide +kernel) (by decide +kernel)
theorem zq_29 : (Jvm.Cond.code ({ cls := "java/lang/Math", name := "min", desc := "(II)I" } : Jvm.MethodName) prog_10_method_69_code (2 : Nat) (Option.some Jvm.ClassFile.FieldType.int)) ∈ zG := zT_mem (k := 29) (by decide +kernel) (by decide +kernel)
theorem zq_30 : (Jvm.Cond.methodLink "ShareRuns$Plan" (15 : Nat) ({ cls := "java/lang/Math", name := "max", desc := "(II)I" } : Jvm.MethodName)) ∈ zG := zT_mem (k := 30) (by decide +kernel) (by decide +kernel)
theorem zq_31 : (Jvm.Cond.static ({ cls := "java/lang/Math", name := "max", desc := "(II)I" } : Jvm.MethodName)) ∈ zG := zT_mem (k := 31) (by decide +kernel) (by decide +kernel)
theorem zq_32 : (Jvm.Cond.code ({ cls := "java/lang/Math", name := "max", desc := "(II)I" } : Jvm.MethodName) prog_10_method_65_code (2 : Nat) (Option.some Jvm.ClassFile.FieldType.int)) ∈ zG := zT_mem (k := 32) (by decide +kernel) (by decide +kernel)
theorem zq_33 : (Jvm.Cond.methodLink "ShareRuns$Plan" (39 : Nat) ({ cls := "java/util/Arrays", name := "fill", desc := "([II)V" } : Jvm.MethodName)) ∈ zG := zT_mem (k := 33) (by decide +kernel) (by decide +kernel)
theorem zq_34 : (Jvm.Cond.static ({ cls := "java/util/Arrays", name := "fill", desc := "([II)V" } : Jvm.MethodName)) ∈ zG := zT_mem (k := 34) (by decide +kernel) (by decide +kernel)
theorem zq_35 : (Jvm.Cond.code ({ cls := "java/util/Arrays", name := "fill", desc := "([II)V" } : Jvm.MethodName) prog_14_method_103_code (4 : Nat) (Option.none : Option Jvm.ClassFile.FieldType)) ∈ zG := zT_mem (k := 35) (by decide +kernel) (by decide +kernel)
theorem zq_36 : (Jvm.Cond.fieldLink "ShareRuns$Plan" (18 : Nat) "ShareRuns$Plan" "size" "I") ∈ zG := zT_mem (k := 36) (by decide +kernel) (by decide +kernel)
theorem zq_37 : (Jvm.Cond.fieldLink "ShareRuns$Plan" (24 : Nat) "ShareRuns$Plan" "work" "[I") ∈ zG := zT_mem (k := 37) (by decide +kernel) (by decide +kernel)
theorem zq_38 : (Jvm.Cond.fieldLink "ShareRuns$Plan" (28 : Nat) "ShareRuns$Plan" "worth" "[J") ∈ zG := zT_mem (k := 38) (by decide +kernel) (by decide +kernel)
theorem zq_39 : (Jvm.Cond.fieldLink "ShareRuns$Plan" (32 : Nat) "ShareRuns$Plan" "settling" "[Z") ∈ zG := zT_mem (k := 39) (by decide +kernel) (by decide +kernel)
theorem zq_40 : (Jvm.Cond.fieldLink "ShareRuns$Plan" (36 : Nat) "ShareRuns$Plan" "faulty" "[I") ∈ zG := zT_mem (k := 40) (by decide +kernel) (by decide +kernel)
theorem zq_52 : (Jvm.Cond.arrayClass Jvm.ClassFile.FieldType.int) ∈ zG := zT_mem (k := 52) (by decide +kernel) (by decide +kernel)
theorem zq_53 : (Jvm.Cond.arrayClass Jvm.ClassFile.FieldType.long) ∈ zG := zT_mem (k := 53) (by decide +kernel) (by decide +kernel)
theorem zq_54 : (Jvm.Cond.arrayClass Jvm.ClassFile.FieldType.boolean) ∈ zG := zT_mem (k := 54) (by decide +kernel) (by decide +kernel)
theorem zq_55 : (Jvm.Cond.classLink "ShareRuns" (18 : Nat) "ShareRuns$Race") ∈ zG := zT_mem (k := 55) (by decide +kernel) (by decide +kernel)
theorem zq_56 : (Jvm.Cond.instantiable "ShareRuns$Race" (16 : Nat)) ∈ zG := zT_mem (k := 56) (by decide +kernel) (by decide +kernel)
theorem zq_57 : (Jvm.Cond.methodLink "ShareRuns" (20 : Nat) ({ cls := "ShareRuns$Race", name := "<init>", desc := "(LShareRuns$Plan;)V" } : Jvm.MethodName)) ∈ zG := zT_mem (k := 57) (by decide +kernel) (by decide +kernel)
theorem zq_58 : (Jvm.Cond.instanceMethod ({ cls := "ShareRuns$Race", name := "<init>", desc := "(LShareRuns$Plan;)V" } : Jvm.MethodName)) ∈ zG := zT_mem (k := 58) (by decide +kernel) (by decide +kernel)
theorem zq_59 : (Jvm.Cond.code ({ cls := "ShareRuns$Race", name := "<init>", desc := "(LShareRuns$Plan;)V" } : Jvm.MethodName) prog_3_method_1_code (2 : Nat) (Option.none : Option Jvm.ClassFile.FieldType)) ∈ zG := zT_mem (k := 59) (by decide +kernel) (by decide +kernel)
theorem zq_60 : (Jvm.Cond.methodLink "ShareRuns$Race" (3 : Nat) ({ cls := "java/lang/Object", name := "<init>", desc := "()V" } : Jvm.MethodName)) ∈ zG := zT_mem (k := 60) (by decide +kernel) (by decide +kernel)
theorem zq_61 : (Jvm.Cond.fieldLink "ShareRuns$Race" (9 : Nat) "ShareRuns$Race" "plan" "LShareRuns$Plan;") ∈ zG := zT_mem (k := 61) (by decide +kernel) (by decide +kernel)
theorem zq_62 : (Jvm.Cond.fieldLink "ShareRuns$Race" (15 : Nat) "ShareRuns$Race" "held" "[I") ∈ zG := zT_mem (k := 62) (by decide +kernel) (by decide +kernel)
theorem zq_63 : (Jvm.Cond.fieldLink "ShareRuns$Race" (19 : Nat) "ShareRuns$Race" "moves" "[I") ∈ zG := zT_mem (k := 63) (by decide +kernel) (by decide +kernel)
theorem zq_64 : (Jvm.Cond.fieldLink "ShareRuns$Race" (22 : Nat) "ShareRuns$Race" "ticksOfTry" "[I") ∈ zG := zT_mem (k := 64) (by decide +kernel) (by decide +kernel)
theorem zq_65 : (Jvm.Cond.fieldLink "ShareRuns$Race" (25 : Nat) "ShareRuns$Race" "spent" "[I") ∈ zG := zT_mem (k := 65) (by decide +kernel) (by decide +kernel)
theorem zq_66 : (Jvm.Cond.fieldLink "ShareRuns$Race" (28 : Nat) "ShareRuns$Race" "failures" "[I") ∈ zG := zT_mem (k := 66) (by decide +kernel) (by decide +kernel)
theorem zq_67 : (Jvm.Cond.fieldLink "ShareRuns$Race" (31 : Nat) "ShareRuns$Race" "doer" "[I") ∈ zG := zT_mem (k := 67) (by decide +kernel) (by decide +kernel)
theorem zq_68 : (Jvm.Cond.fieldLink "ShareRuns$Race" (34 : Nat) "ShareRuns$Race" "doneTick" "[I") ∈ zG := zT_mem (k := 68) (by decide +kernel) (by decide +kernel)
theorem zq_69 : (Jvm.Cond.fieldLink "ShareRuns$Race" (37 : Nat) "ShareRuns$Race" "order" "[I") ∈ zG := zT_mem (k := 69) (by decide +kernel) (by decide +kernel)
theorem zq_70 : (Jvm.Cond.fieldLink "ShareRuns$Race" (55 : Nat) "ShareRuns$Race" "crew" "I") ∈ zG := zT_mem (k := 70) (by decide +kernel) (by decide +kernel)
theorem zq_71 : (Jvm.Cond.fieldLink "ShareRuns$Race" (59 : Nat) "ShareRuns$Race" "holders" "I") ∈ zG := zT_mem (k := 71) (by decide +kernel) (by decide +kernel)
theorem zq_72 : (Jvm.Cond.fieldLink "ShareRuns$Race" (62 : Nat) "ShareRuns$Race" "next" "I") ∈ zG := zT_mem (k := 72) (by decide +kernel) (by decide +kernel)
theorem zq_73 : (Jvm.Cond.fieldLink "ShareRuns$Race" (71 : Nat) "ShareRuns$Race" "barrier" "I") ∈ zG := zT_mem (k := 73) (by decide +kernel) (by decide +kernel)
theorem zq_74 : (Jvm.Cond.fieldLink "ShareRuns$Race" (74 : Nat) "ShareRuns$Race" "places" "I") ∈ zG := zT_mem (k := 74) (by decide +kernel) (by decide +kernel)
theorem zq_75 : (Jvm.Cond.fieldLink "ShareRuns$Race" (77 : Nat) "ShareRuns$Race" "tick" "I") ∈ zG := zT_mem (k := 75) (by decide +kernel) (by decide +kernel)
theorem zq_76 : (Jvm.Cond.fieldLink "ShareRuns$Race" (80 : Nat) "ShareRuns$Race" "\x72" "J") ∈ zG := zT_mem (k := 76) (by decide +kernel) (by decide +kernel)
theorem zq_110 : (Jvm.Cond.fieldLink "ShareRuns" (12 : Nat) "ShareRuns" "plan" "LShareRuns$Plan;") ∈ zG := zT_mem (k := 110) (by decide +kernel) (by decide +kernel)
theorem zq_111 : (Jvm.Cond.fieldLink "ShareRuns" (23 : Nat) "ShareRuns" "race" "LShareRuns$Race;") ∈ zG := zT_mem (k := 111) (by decide +kernel) (by decide +kernel)
theorem zq_112 : (Jvm.Cond.fieldLink "ShareRuns" (27 : Nat) "ShareRuns" "known" "Z") ∈ zG := zT_mem (k := 112) (by decide +kernel) (by decide +kernel)
theorem zq_120 : (Jvm.Cond.methodLink "ShareRunsLaw" (103 : Nat) ({ cls := "ShareRuns", name := "count", desc := "()I" } : Jvm.MethodName)) ∈ zG := zT_mem (k := 120) (by decide +kernel) (by decide +kernel)
theorem zq_121 : (Jvm.Cond.instanceMethod ({ cls := "ShareRuns", name := "count", desc := "()I" } : Jvm.MethodName)) ∈ zG := zT_mem (k := 121) (by decide +kernel) (by decide +kernel)
theorem zq_122 : (Jvm.Cond.selects "ShareRuns" ({ cls := "ShareRuns", name := "count", desc := "()I" } : Jvm.MethodName) ({ cls := "ShareRuns", name := "count", desc := "()I" } : Jvm.MethodName)) ∈ zG := zT_mem (k := 122) (by decide +kernel) (by decide +kernel)
theorem zq_123 : (Jvm.Cond.code ({ cls := "ShareRuns", name := "count", desc := "()I" } : Jvm.MethodName) prog_1_method_12_code (1 : Nat) (Option.some Jvm.ClassFile.FieldType.int)) ∈ zG := zT_mem (k := 123) (by decide +kernel) (by decide +kernel)
theorem zq_124 : (Jvm.Cond.methodLink "ShareRuns" (116 : Nat) ({ cls := "ShareRuns$Plan", name := "size", desc := "()I" } : Jvm.MethodName)) ∈ zG := zT_mem (k := 124) (by decide +kernel) (by decide +kernel)
theorem zq_125 : (Jvm.Cond.instanceMethod ({ cls := "ShareRuns$Plan", name := "size", desc := "()I" } : Jvm.MethodName)) ∈ zG := zT_mem (k := 125) (by decide +kernel) (by decide +kernel)
theorem zq_126 : (Jvm.Cond.selects "ShareRuns$Plan" ({ cls := "ShareRuns$Plan", name := "size", desc := "()I" } : Jvm.MethodName) ({ cls := "ShareRuns$Plan", name := "size", desc := "()I" } : Jvm.MethodName)) ∈ zG := zT_mem (k := 126) (by decide +kernel) (by decide +kernel)
theorem zq_127 : (Jvm.Cond.code ({ cls := "ShareRuns$Plan", name := "size", desc := "()I" } : Jvm.MethodName) prog_2_method_2_code (1 : Nat) (Option.some Jvm.ClassFile.FieldType.int)) ∈ zG := zT_mem (k := 127) (by decide +kernel) (by decide +kernel)
theorem zq_128 : (Jvm.Cond.methodLink "ShareRunsLaw" (50 : Nat) ({ cls := "ShareRunsLaw", name := "cell", desc := "([II)I" } : Jvm.MethodName)) ∈ zG := zT_mem (k := 128) (by decide +kernel) (by decide +kernel)
theorem zq_129 : (Jvm.Cond.static ({ cls := "ShareRunsLaw", name := "cell", desc := "([II)I" } : Jvm.MethodName)) ∈ zG := zT_mem (k := 129) (by decide +kernel) (by decide +kernel)
theorem zq_130 : (Jvm.Cond.code ({ cls := "ShareRunsLaw", name := "cell", desc := "([II)I" } : Jvm.MethodName) method_2_code (2 : Nat) (Option.some Jvm.ClassFile.FieldType.int)) ∈ zG := zT_mem (k := 130) (by decide +kernel) (by decide +kernel)
theorem zq_131 : (Jvm.Cond.methodLink "ShareRunsLaw" (64 : Nat) ({ cls := "ShareRunsLaw", name := "value", desc := "(LShareRuns;IIJZ[J)I" } : Jvm.MethodName)) ∈ zG := zT_mem (k := 131) (by decide +kernel) (by decide +kernel)
theorem zq_132 : (Jvm.Cond.static ({ cls := "ShareRunsLaw", name := "value", desc := "(LShareRuns;IIJZ[J)I" } : Jvm.MethodName)) ∈ zG := zT_mem (k := 132) (by decide +kernel) (by decide +kernel)
theorem zq_133 : (Jvm.Cond.codeWith ({ cls := "ShareRunsLaw", name := "value", desc := "(LShareRuns;IIJZ[J)I" } : Jvm.MethodName) method_3_code (8 : Nat) (Option.some Jvm.ClassFile.FieldType.int) [((0 : Nat), (21 : Nat), (24 : Nat), (13 : Nat)), ((0 : Nat), (21 : Nat), (28 : Nat), (15 : Nat))]) ∈ zG := zT_mem (k := 133) (by decide +kernel) (by decide +kernel)
theorem zq_134 : (Jvm.Cond.classLink "ShareRunsLaw" (13 : Nat) "java/lang/IndexOutOfBoundsException") ∈ zG := zT_mem (k := 134) (by decide +kernel) (by decide +kernel)
theorem zq_135 : (Jvm.Cond.classLink "ShareRunsLaw" (15 : Nat) "java/lang/IllegalArgumentException") ∈ zG := zT_mem (k := 135) (by decide +kernel) (by decide +kernel)
theorem zq_136 : (Jvm.Cond.methodLink "ShareRunsLaw" (7 : Nat) ({ cls := "ShareRuns", name := "value", desc := "(IIJZ)Z" } : Jvm.MethodName)) ∈ zG := zT_mem (k := 136) (by decide +kernel) (by decide +kernel)
theorem zq_137 : (Jvm.Cond.instanceMethod ({ cls := "ShareRuns", name := "value", desc := "(IIJZ)Z" } : Jvm.MethodName)) ∈ zG := zT_mem (k := 137) (by decide +kernel) (by decide +kernel)
theorem zq_138 : (Jvm.Cond.selects "ShareRuns" ({ cls := "ShareRuns", name := "value", desc := "(IIJZ)Z" } : Jvm.MethodName) ({ cls := "ShareRuns", name := "value", desc := "(IIJZ)Z" } : Jvm.MethodName)) ∈ zG := zT_mem (k := 138) (by decide +kernel) (by decide +kernel)
theorem zq_139 : (Jvm.Cond.code ({ cls := "ShareRuns", name := "value", desc := "(IIJZ)Z" } : Jvm.MethodName) prog_1_method_2_code (7 : Nat) (Option.some Jvm.ClassFile.FieldType.boolean)) ∈ zG := zT_mem (k := 139) (by decide +kernel) (by decide +kernel)
theorem zq_140 : (Jvm.Cond.methodLink "ShareRuns" (31 : Nat) ({ cls := "ShareRuns", name := "needShare", desc := "(I)V" } : Jvm.MethodName)) ∈ zG := zT_mem (k := 140) (by decide +kernel) (by decide +kernel)
theorem zq_142 : (Jvm.Cond.instanceMethod ({ cls := "ShareRuns", name := "needShare", desc := "(I)V" } : Jvm.MethodName)) ∈ zG := zT_mem (k := 142) (by decide +kernel) (by decide +kernel)
theorem zq_143 : (Jvm.Cond.code ({ cls := "ShareRuns", name := "needShare", desc := "(I)V" } : Jvm.MethodName) prog_1_method_14_code (2 : Nat) (Option.none : Option Jvm.ClassFile.FieldType)) ∈ zG := zT_mem (k := 143) (by decide +kernel) (by decide +kernel)
theorem zq_144 : (Jvm.Cond.methodLink "ShareRuns" (124 : Nat) ({ cls := "ShareRuns$Plan", name := "has", desc := "(I)Z" } : Jvm.MethodName)) ∈ zG := zT_mem (k := 144) (by decide +kernel) (by decide +kernel)
theorem zq_145 : (Jvm.Cond.instanceMethod ({ cls := "ShareRuns$Plan", name := "has", desc := "(I)Z" } : Jvm.MethodName)) ∈ zG := zT_mem (k := 145) (by decide +kernel) (by decide +kernel)
theorem zq_146 : (Jvm.Cond.selects "ShareRuns$Plan" ({ cls := "ShareRuns$Plan", name := "has", desc := "(I)Z" } : Jvm.MethodName) ({ cls := "ShareRuns$Plan", name := "has", desc := "(I)Z" } : Jvm.MethodName)) ∈ zG := zT_mem (k := 146) (by decide +kernel) (by decide +kernel)
theorem zq_147 : (Jvm.Cond.code ({ cls := "ShareRuns$Plan", name := "has", desc := "(I)Z" } : Jvm.MethodName) prog_2_method_3_code (2 : Nat) (Option.some Jvm.ClassFile.FieldType.boolean)) ∈ zG := zT_mem (k := 147) (by decide +kernel) (by decide +kernel)
theorem zq_148 : (Jvm.Cond.classLink "ShareRuns" (87 : Nat) "java/lang/IndexOutOfBoundsException") ∈ zG := zT_mem (k := 148) (by decide +kernel) (by decide +kernel)
theorem zq_149 : (Jvm.Cond.instantiable "java/lang/IndexOutOfBoundsException" (6 : Nat)) ∈ zG := zT_mem (k := 149) (by decide +kernel) (by decide +kernel)
theorem zq_157 : (Jvm.Cond.selects "java/lang/IndexOutOfBoundsException" ({ cls := "java/lang/Throwable", name := "fillInStackTrace", desc := "(I)Ljava/lang/Throwable;" } : Jvm.MethodName) ({ cls := "java/lang/Throwable", name := "fillInStackTrace", desc := "(I)Ljava/lang/Throwable;" } : Jvm.MethodName)) ∈ zG := zT_mem (k := 157) (by decide +kernel) (by decide +kernel)
theorem zq_158 : (Jvm.Cond.selects "java/lang/IndexOutOfBoundsException" ({ cls := "java/lang/Throwable", name := "fillInStackTrace", desc := "()Ljava/lang/Throwable;" } : Jvm.MethodName) ({ cls := "java/lang/Throwable", name := "fillInStackTrace", desc := "()Ljava/lang/Throwable;" } : Jvm.MethodName)) ∈ zG := zT_mem (k := 158) (by decide +kernel) (by decide +kernel)
theorem zq_169 : (Jvm.Cond.fieldLink "java/lang/Throwable" (198 : Nat) "java/lang/Throwable" "backtrace" "Ljava/lang/Object;") ∈ zG := zT_mem (k := 169) (by decide +kernel) (by decide +kernel)
theorem zq_171 : (Jvm.Cond.instanceMethod ({ cls := "java/lang/Throwable", name := "<init>", desc := "()V" } : Jvm.MethodName)) ∈ zG := zT_mem (k := 171) (by decide +kernel) (by decide +kernel)
theorem zq_172 : (Jvm.Cond.code ({ cls := "java/lang/Throwable", name := "<init>", desc := "()V" } : Jvm.MethodName) prog_13_method_1_code (1 : Nat) (Option.none : Option Jvm.ClassFile.FieldType)) ∈ zG := zT_mem (k := 172) (by decide +kernel) (by decide +kernel)
theorem zq_173 : (Jvm.Cond.methodLink "java/lang/Throwable" (1 : Nat) ({ cls := "java/lang/Object", name := "<init>", desc := "()V" } : Jvm.MethodName)) ∈ zG := zT_mem (k := 173) (by decide +kernel) (by decide +kernel)
theorem zq_174 : (Jvm.Cond.fieldLink "java/lang/Throwable" (13 : Nat) "java/lang/Throwable" "UNASSIGNED_STACK" "[Ljava/lang/StackTraceElement;") ∈ zG := zT_mem (k := 174) (by decide +kernel) (by decide +kernel)
theorem zq_176 : (Jvm.Cond.fieldLink "java/lang/Throwable" (20 : Nat) "java/lang/Throwable" "SUPPRESSED_SENTINEL" "Ljava/util/List;") ∈ zG := zT_mem (k := 176) (by decide +kernel) (by decide +kernel)
theorem zq_178 : (Jvm.Cond.methodLink "java/lang/Throwable" (27 : Nat) ({ cls := "java/lang/Throwable", name := "fillInStackTrace", desc := "()Ljava/lang/Throwable;" } : Jvm.MethodName)) ∈ zG := zT_mem (k := 178) (by decide +kernel) (by decide +kernel)
theorem zq_179 : (Jvm.Cond.instanceMethod ({ cls := "java/lang/Throwable", name := "fillInStackTrace", desc := "()Ljava/lang/Throwable;" } : Jvm.MethodName)) ∈ zG := zT_mem (k := 179) (by decide +kernel) (by decide +kernel)
theorem zq_181 : (Jvm.Cond.selects "java/lang/IllegalArgumentException" ({ cls := "java/lang/Throwable", name := "fillInStackTrace", desc := "()Ljava/lang/Throwable;" } : Jvm.MethodName) ({ cls := "java/lang/Throwable", name := "fillInStackTrace", desc := "()Ljava/lang/Throwable;" } : Jvm.MethodName)) ∈ zG := zT_mem (k := 181) (by decide +kernel) (by decide +kernel)
theorem zq_182 : (Jvm.Cond.selects "java/lang/IllegalStateException" ({ cls := "java/lang/Throwable", name := "fillInStackTrace", desc := "()Ljava/lang/Throwable;" } : Jvm.MethodName) ({ cls := "java/lang/Throwable", name := "fillInStackTrace", desc := "()Ljava/lang/Throwable;" } : Jvm.MethodName)) ∈ zG := zT_mem (k := 182) (by decide +kernel) (by decide +kernel)
theorem zq_184 : (Jvm.Cond.methodLink "java/lang/Throwable" (202 : Nat) ({ cls := "java/lang/Throwable", name := "fillInStackTrace", desc := "(I)Ljava/lang/Throwable;" } : Jvm.MethodName)) ∈ zG := zT_mem (k := 184) (by decide +kernel) (by decide +kernel)
theorem zq_186 : (Jvm.Cond.instanceMethod ({ cls := "java/lang/Throwable", name := "fillInStackTrace", desc := "(I)Ljava/lang/Throwable;" } : Jvm.MethodName)) ∈ zG := zT_mem (k := 186) (by decide +kernel) (by decide +kernel)
theorem zq_187 : (Jvm.Cond.instantiable "java/lang/Throwable" (6 : Nat)) ∈ zG := zT_mem (k := 187) (by decide +kernel) (by decide +kernel)
theorem zq_190 : (Jvm.Cond.methodLink "ShareRuns" (91 : Nat) ({ cls := "java/lang/IndexOutOfBoundsException", name := "<init>", desc := "(Ljava/lang/String;)V" } : Jvm.MethodName)) ∈ zG := zT_mem (k := 190) (by decide +kernel) (by decide +kernel)
theorem zq_191 : (Jvm.Cond.instanceMethod ({ cls := "java/lang/IndexOutOfBoundsException", name := "<init>", desc := "(Ljava/lang/String;)V" } : Jvm.MethodName)) ∈ zG := zT_mem (k := 191) (by decide +kernel) (by decide +kernel)
theorem zq_192 : (Jvm.Cond.code ({ cls := "java/lang/IndexOutOfBoundsException", name := "<init>", desc := "(Ljava/lang/String;)V" } : Jvm.MethodName) prog_9_method_2_code (2 : Nat) (Option.none : Option Jvm.ClassFile.FieldType)) ∈ zG := zT_mem (k := 192) (by decide +kernel) (by decide +kernel)
theorem zq_193 : (Jvm.Cond.methodLink "java/lang/IndexOutOfBoundsException" (7 : Nat) ({ cls := "java/lang/RuntimeException", name := "<init>", desc := "(Ljava/lang/String;)V" } : Jvm.MethodName)) ∈ zG := zT_mem (k := 193) (by decide +kernel) (by decide +kernel)
theorem zq_194 : (Jvm.Cond.instanceMethod ({ cls := "java/lang/RuntimeException", name := "<init>", desc := "(Ljava/lang/String;)V" } : Jvm.MethodName)) ∈ zG := zT_mem (k := 194) (by decide +kernel) (by decide +kernel)
theorem zq_195 : (Jvm.Cond.code ({ cls := "java/lang/RuntimeException", name := "<init>", desc := "(Ljava/lang/String;)V" } : Jvm.MethodName) prog_11_method_2_code (2 : Nat) (Option.none : Option Jvm.ClassFile.FieldType)) ∈ zG := zT_mem (k := 195) (by decide +kernel) (by decide +kernel)
theorem zq_196 : (Jvm.Cond.methodLink "java/lang/RuntimeException" (7 : Nat) ({ cls := "java/lang/Exception", name := "<init>", desc := "(Ljava/lang/String;)V" } : Jvm.MethodName)) ∈ zG := zT_mem (k := 196) (by decide +kernel) (by decide +kernel)
theorem zq_197 : (Jvm.Cond.instanceMethod ({ cls := "java/lang/Exception", name := "<init>", desc := "(Ljava/lang/String;)V" } : Jvm.MethodName)) ∈ zG := zT_mem (k := 197) (by decide +kernel) (by decide +kernel)
theorem zq_198 : (Jvm.Cond.code ({ cls := "java/lang/Exception", name := "<init>", desc := "(Ljava/lang/String;)V" } : Jvm.MethodName) prog_6_method_2_code (2 : Nat) (Option.none : Option Jvm.ClassFile.FieldType)) ∈ zG := zT_mem (k := 198) (by decide +kernel) (by decide +kernel)
theorem zq_199 : (Jvm.Cond.methodLink "java/lang/Exception" (7 : Nat) ({ cls := "java/lang/Throwable", name := "<init>", desc := "(Ljava/lang/String;)V" } : Jvm.MethodName)) ∈ zG := zT_mem (k := 199) (by decide +kernel) (by decide +kernel)
theorem zq_200 : (Jvm.Cond.instanceMethod ({ cls := "java/lang/Throwable", name := "<init>", desc := "(Ljava/lang/String;)V" } : Jvm.MethodName)) ∈ zG := zT_mem (k := 200) (by decide +kernel) (by decide +kernel)
theorem zq_201 : (Jvm.Cond.code ({ cls := "java/lang/Throwable", name := "<init>", desc := "(Ljava/lang/String;)V" } : Jvm.MethodName) prog_13_method_2_code (2 : Nat) (Option.none : Option Jvm.ClassFile.FieldType)) ∈ zG := zT_mem (k := 201) (by decide +kernel) (by decide +kernel)
theorem zq_202 : (Jvm.Cond.fieldLink "java/lang/Throwable" (198 : Nat) "java/lang/Throwable" "backtrace" "Ljava/lang/Object;") ∈ zG := zT_mem (k := 202) (by decide +kernel) (by decide +kernel)
theorem zq_203 : (Jvm.Cond.fieldLink "java/lang/Throwable" (31 : Nat) "java/lang/Throwable" "detailMessage" "Ljava/lang/String;") ∈ zG := zT_mem (k := 203) (by decide +kernel) (by decide +kernel)
theorem zq_204 : (Jvm.Cond.fieldLink "java/lang/Throwable" (7 : Nat) "java/lang/Throwable" "cause" "Ljava/lang/Throwable;") ∈ zG := zT_mem (k := 204) (by decide +kernel) (by decide +kernel)
theorem zq_205 : (Jvm.Cond.fieldLink "java/lang/Throwable" (17 : Nat) "java/lang/Throwable" "stackTrace" "[Ljava/lang/StackTraceElement;") ∈ zG := zT_mem (k := 205) (by decide +kernel) (by decide +kernel)
theorem zq_206 : (Jvm.Cond.fieldLink "java/lang/Throwable" (24 : Nat) "java/lang/Throwable" "suppressedExceptions" "Ljava/util/List;") ∈ zG := zT_mem (k := 206) (by decide +kernel) (by decide +kernel)
theorem zq_215 : (Jvm.Cond.arrayClass Jvm.ClassFile.FieldType.byte) ∈ zG := zT_mem (k := 215) (by decide +kernel) (by decide +kernel)
theorem zq_216 : (Jvm.Cond.classLink "ShareRuns" (34 : Nat) "java/lang/IllegalArgumentException") ∈ zG := zT_mem (k := 216) (by decide +kernel) (by decide +kernel)
theorem zq_217 : (Jvm.Cond.instantiable "java/lang/IllegalArgumentException" (6 : Nat)) ∈ zG := zT_mem (k := 217) (by decide +kernel) (by decide +kernel)
theorem zq_219 : (Jvm.Cond.selects "java/lang/IllegalArgumentException" ({ cls := "java/lang/Throwable", name := "fillInStackTrace", desc := "(I)Ljava/lang/Throwable;" } : Jvm.MethodName) ({ cls := "java/lang/Throwable", name := "fillInStackTrace", desc := "(I)Ljava/lang/Throwable;" } : Jvm.MethodName)) ∈ zG := zT_mem (k := 219) (by decide +kernel) (by decide +kernel)
theorem zq_226 : (Jvm.Cond.methodLink "ShareRuns" (38 : Nat) ({ cls := "java/lang/IllegalArgumentException", name := "<init>", desc := "(Ljava/lang/String;)V" } : Jvm.MethodName)) ∈ zG := zT_mem (k := 226) (by decide +kernel) (by decide +kernel)
theorem zq_227 : (Jvm.Cond.instanceMethod ({ cls := "java/lang/IllegalArgumentException", name := "<init>", desc := "(Ljava/lang/String;)V" } : Jvm.MethodName)) ∈ zG := zT_mem (k := 227) (by decide +kernel) (by decide +kernel)
theorem zq_228 : (Jvm.Cond.code ({ cls := "java/lang/IllegalArgumentException", name := "<init>", desc := "(Ljava/lang/String;)V" } : Jvm.MethodName) prog_7_method_2_code (2 : Nat) (Option.none : Option Jvm.ClassFile.FieldType)) ∈ zG := zT_mem (k := 228) (by decide +kernel) (by decide +kernel)
theorem zq_229 : (Jvm.Cond.methodLink "java/lang/IllegalArgumentException" (7 : Nat) ({ cls := "java/lang/RuntimeException", name := "<init>", desc := "(Ljava/lang/String;)V" } : Jvm.MethodName)) ∈ zG := zT_mem (k := 229) (by decide +kernel) (by decide +kernel)
theorem zq_232 : (Jvm.Cond.methodLink "ShareRuns" (41 : Nat) ({ cls := "ShareRuns$Plan", name := "change", desc := "(IIJZ)Z" } : Jvm.MethodName)) ∈ zG := zT_mem (k := 232) (by decide +kernel) (by decide +kernel)
theorem zq_233 : (Jvm.Cond.instanceMethod ({ cls := "ShareRuns$Plan", name := "change", desc := "(IIJZ)Z" } : Jvm.MethodName)) ∈ zG := zT_mem (k := 233) (by decide +kernel) (by decide +kernel)
theorem zq_234 : (Jvm.Cond.selects "ShareRuns$Plan" ({ cls := "ShareRuns$Plan", name := "change", desc := "(IIJZ)Z" } : Jvm.MethodName) ({ cls := "ShareRuns$Plan", name := "change", desc := "(IIJZ)Z" } : Jvm.MethodName)) ∈ zG := zT_mem (k := 234) (by decide +kernel) (by decide +kernel)
theorem zq_235 : (Jvm.Cond.code ({ cls := "ShareRuns$Plan", name := "change", desc := "(IIJZ)Z" } : Jvm.MethodName) prog_2_method_4_code (7 : Nat) (Option.some Jvm.ClassFile.FieldType.boolean)) ∈ zG := zT_mem (k := 235) (by decide +kernel) (by decide +kernel)
theorem zq_236 : (Jvm.Cond.methodLink "ShareRuns$Plan" (45 : Nat) ({ cls := "ShareRuns$Plan", name := "has", desc := "(I)Z" } : Jvm.MethodName)) ∈ zG := zT_mem (k := 236) (by decide +kernel) (by decide +kernel)
theorem zq_237 : (Jvm.Cond.methodLink "ShareRuns" (45 : Nat) ({ cls := "ShareRuns", name := "forgetIf", desc := "(Z)V" } : Jvm.MethodName)) ∈ zG := zT_mem (k := 237) (by decide +kernel) (by decide +kernel)
theorem zq_239 : (Jvm.Cond.instanceMethod ({ cls := "ShareRuns", name := "forgetIf", desc := "(Z)V" } : Jvm.MethodName)) ∈ zG := zT_mem (k := 239) (by decide +kernel) (by decide +kernel)
theorem zq_240 : (Jvm.Cond.code ({ cls := "ShareRuns", name := "forgetIf", desc := "(Z)V" } : Jvm.MethodName) prog_1_method_15_code (2 : Nat) (Option.none : Option Jvm.ClassFile.FieldType)) ∈ zG := zT_mem (k := 240) (by decide +kernel) (by decide +kernel)
theorem zq_241 : (Jvm.Cond.methodLink "ShareRunsLaw" (72 : Nat) ({ cls := "ShareRunsLaw", name := "faults", desc := "(LShareRuns;II[J)I" } : Jvm.MethodName)) ∈ zG := zT_mem (k := 241) (by decide +kernel) (by decide +kernel)
theorem zq_242 : (Jvm.Cond.static ({ cls := "ShareRunsLaw", name := "faults", desc := "(LShareRuns;II[J)I" } : Jvm.MethodName)) ∈ zG := zT_mem (k := 242) (by decide +kernel) (by decide +kernel)
theorem zq_243 : (Jvm.Cond.codeWith ({ cls := "ShareRunsLaw", name := "faults", desc := "(LShareRuns;II[J)I" } : Jvm.MethodName) method_4_code (5 : Nat) (Option.some Jvm.ClassFile.FieldType.int) [((0 : Nat), (17 : Nat), (20 : Nat), (13 : Nat)), ((0 : Nat), (17 : Nat), (24 : Nat), (15 : Nat))]) ∈ zG := zT_mem (k := 243) (by decide +kernel) (by decide +kernel)
theorem zq_244 : (Jvm.Cond.methodLink "ShareRunsLaw" (17 : Nat) ({ cls := "ShareRuns", name := "faults", desc := "(II)Z" } : Jvm.MethodName)) ∈ zG := zT_mem (k := 244) (by decide +kernel) (by decide +kernel)
theorem zq_245 : (Jvm.Cond.instanceMethod ({ cls := "ShareRuns", name := "faults", desc := "(II)Z" } : Jvm.MethodName)) ∈ zG := zT_mem (k := 245) (by decide +kernel) (by decide +kernel)
theorem zq_246 : (Jvm.Cond.selects "ShareRuns" ({ cls := "ShareRuns", name := "faults", desc := "(II)Z" } : Jvm.MethodName) ({ cls := "ShareRuns", name := "faults", desc := "(II)Z" } : Jvm.MethodName)) ∈ zG := zT_mem (k := 246) (by decide +kernel) (by decide +kernel)
theorem zq_247 : (Jvm.Cond.code ({ cls := "ShareRuns", name := "faults", desc := "(II)Z" } : Jvm.MethodName) prog_1_method_3_code (4 : Nat) (Option.some Jvm.ClassFile.FieldType.boolean)) ∈ zG := zT_mem (k := 247) (by decide +kernel) (by decide +kernel)
theorem zq_249 : (Jvm.Cond.methodLink "ShareRuns" (51 : Nat) ({ cls := "ShareRuns$Plan", name := "changeFaults", desc := "(II)Z" } : Jvm.MethodName)) ∈ zG := zT_mem (k := 249) (by decide +kernel) (by decide +kernel)
theorem zq_250 : (Jvm.Cond.instanceMethod ({ cls := "ShareRuns$Plan", name := "changeFaults", desc := "(II)Z" } : Jvm.MethodName)) ∈ zG := zT_mem (k := 250) (by decide +kernel) (by decide +kernel)
theorem zq_251 : (Jvm.Cond.selects "ShareRuns$Plan" ({ cls := "ShareRuns$Plan", name := "changeFaults", desc := "(II)Z" } : Jvm.MethodName) ({ cls := "ShareRuns$Plan", name := "changeFaults", desc := "(II)Z" } : Jvm.MethodName)) ∈ zG := zT_mem (k := 251) (by decide +kernel) (by decide +kernel)
theorem zq_252 : (Jvm.Cond.code ({ cls := "ShareRuns$Plan", name := "changeFaults", desc := "(II)Z" } : Jvm.MethodName) prog_2_method_5_code (4 : Nat) (Option.some Jvm.ClassFile.FieldType.boolean)) ∈ zG := zT_mem (k := 252) (by decide +kernel) (by decide +kernel)
theorem zq_253 : (Jvm.Cond.methodLink "ShareRunsLaw" (76 : Nat) ({ cls := "ShareRunsLaw", name := "run", desc := "(LShareRuns;IJI[J)I" } : Jvm.MethodName)) ∈ zG := zT_mem (k := 253) (by decide +kernel) (by decide +kernel)
theorem zq_254 : (Jvm.Cond.static ({ cls := "ShareRunsLaw", name := "run", desc := "(LShareRuns;IJI[J)I" } : Jvm.MethodName)) ∈ zG := zT_mem (k := 254) (by decide +kernel) (by decide +kernel)
theorem zq_255 : (Jvm.Cond.codeWith ({ cls := "ShareRunsLaw", name := "run", desc := "(LShareRuns;IJI[J)I" } : Jvm.MethodName) method_5_code (7 : Nat) (Option.some Jvm.ClassFile.FieldType.int) [((0 : Nat), (13 : Nat), (16 : Nat), (15 : Nat))]) ∈ zG := zT_mem (k := 255) (by decide +kernel) (by decide +kernel)
theorem zq_256 : (Jvm.Cond.methodLink "ShareRunsLaw" (21 : Nat) ({ cls := "ShareRuns", name := "run", desc := "(IJI)I" } : Jvm.MethodName)) ∈ zG := zT_mem (k := 256) (by decide +kernel) (by decide +kernel)
theorem zq_257 : (Jvm.Cond.instanceMethod ({ cls := "ShareRuns", name := "run", desc := "(IJI)I" } : Jvm.MethodName)) ∈ zG := zT_mem (k := 257) (by decide +kernel) (by decide +kernel)
theorem zq_258 : (Jvm.Cond.selects "ShareRuns" ({ cls := "ShareRuns", name := "run", desc := "(IJI)I" } : Jvm.MethodName) ({ cls := "ShareRuns", name := "run", desc := "(IJI)I" } : Jvm.MethodName)) ∈ zG := zT_mem (k := 258) (by decide +kernel) (by decide +kernel)
theorem zq_259 : (Jvm.Cond.code ({ cls := "ShareRuns", name := "run", desc := "(IJI)I" } : Jvm.MethodName) prog_1_method_4_code (5 : Nat) (Option.some Jvm.ClassFile.FieldType.int)) ∈ zG := zT_mem (k := 259) (by decide +kernel) (by decide +kernel)
theorem zq_262 : (Jvm.Cond.methodLink "ShareRuns" (59 : Nat) ({ cls := "ShareRuns$Race", name := "begin", desc := "(IJ)V" } : Jvm.MethodName)) ∈ zG := zT_mem (k := 262) (by decide +kernel) (by decide +kernel)
theorem zq_263 : (Jvm.Cond.instanceMethod ({ cls := "ShareRuns$Race", name := "begin", desc := "(IJ)V" } : Jvm.MethodName)) ∈ zG := zT_mem (k := 263) (by decide +kernel) (by decide +kernel)
theorem zq_264 : (Jvm.Cond.selects "ShareRuns$Race" ({ cls := "ShareRuns$Race", name := "begin", desc := "(IJ)V" } : Jvm.MethodName) ({ cls := "ShareRuns$Race", name := "begin", desc := "(IJ)V" } : Jvm.MethodName)) ∈ zG := zT_mem (k := 264) (by decide +kernel) (by decide +kernel)
theorem zq_265 : (Jvm.Cond.code ({ cls := "ShareRuns$Race", name := "begin", desc := "(IJ)V" } : Jvm.MethodName) prog_3_method_2_code (4 : Nat) (Option.none : Option Jvm.ClassFile.FieldType)) ∈ zG := zT_mem (k := 265) (by decide +kernel) (by decide +kernel)
theorem zq_266 : (Jvm.Cond.methodLink "ShareRuns$Race" (40 : Nat) ({ cls := "java/util/Arrays", name := "fill", desc := "([II)V" } : Jvm.MethodName)) ∈ zG := zT_mem (k := 266) (by decide +kernel) (by decide +kernel)
theorem zq_267 : (Jvm.Cond.methodLink "ShareRuns$Race" (46 : Nat) ({ cls := "java/lang/Math", name := "min", desc := "(II)I" } : Jvm.MethodName)) ∈ zG := zT_mem (k := 267) (by decide +kernel) (by decide +kernel)
theorem zq_268 : (Jvm.Cond.methodLink "ShareRuns$Race" (52 : Nat) ({ cls := "java/lang/Math", name := "max", desc := "(II)I" } : Jvm.MethodName)) ∈ zG := zT_mem (k := 268) (by decide +kernel) (by decide +kernel)
theorem zq_269 : (Jvm.Cond.methodLink "ShareRuns$Race" (65 : Nat) ({ cls := "ShareRuns$Plan", name := "size", desc := "()I" } : Jvm.MethodName)) ∈ zG := zT_mem (k := 269) (by decide +kernel) (by decide +kernel)
theorem zq_270 : (Jvm.Cond.methodLink "ShareRuns" (63 : Nat) ({ cls := "ShareRuns$Race", name := "endsWithin", desc := "(I)Z" } : Jvm.MethodName)) ∈ zG := zT_mem (k := 270) (by decide +kernel) (by decide +kernel)
theorem zq_271 : (Jvm.Cond.instanceMethod ({ cls := "ShareRuns$Race", name := "endsWithin", desc := "(I)Z" } : Jvm.MethodName)) ∈ zG := zT_mem (k := 271) (by decide +kernel) (by decide +kernel)
theorem zq_272 : (Jvm.Cond.selects "ShareRuns$Race" ({ cls := "ShareRuns$Race", name := "endsWithin", desc := "(I)Z" } : Jvm.MethodName) ({ cls := "ShareRuns$Race", name := "endsWithin", desc := "(I)Z" } : Jvm.MethodName)) ∈ zG := zT_mem (k := 272) (by decide +kernel) (by decide +kernel)
theorem zq_273 : (Jvm.Cond.code ({ cls := "ShareRuns$Race", name := "endsWithin", desc := "(I)Z" } : Jvm.MethodName) prog_3_method_3_code (3 : Nat) (Option.some Jvm.ClassFile.FieldType.boolean)) ∈ zG := zT_mem (k := 273) (by decide +kernel) (by decide +kernel)
theorem zq_274 : (Jvm.Cond.methodLink "ShareRuns$Race" (84 : Nat) ({ cls := "ShareRuns$Race", name := "movers", desc := "()I" } : Jvm.MethodName)) ∈ zG := zT_mem (k := 274) (by decide +kernel) (by decide +kernel)
theorem zq_276 : (Jvm.Cond.instanceMethod ({ cls := "ShareRuns$Race", name := "movers", desc := "()I" } : Jvm.MethodName)) ∈ zG := zT_mem (k := 276) (by decide +kernel) (by decide +kernel)
theorem zq_277 : (Jvm.Cond.code ({ cls := "ShareRuns$Race", name := "movers", desc := "()I" } : Jvm.MethodName) prog_3_method_5_code (1 : Nat) (Option.some Jvm.ClassFile.FieldType.int)) ∈ zG := zT_mem (k := 277) (by decide +kernel) (by decide +kernel)
theorem zq_278 : (Jvm.Cond.methodLink "ShareRuns$Race" (90 : Nat) ({ cls := "ShareRuns$Race", name := "someShareWaits", desc := "()Z" } : Jvm.MethodName)) ∈ zG := zT_mem (k := 278) (by decide +kernel) (by decide +kernel)
theorem zq_280 : (Jvm.Cond.instanceMethod ({ cls := "ShareRuns$Race", name := "someShareWaits", desc := "()Z" } : Jvm.MethodName)) ∈ zG := zT_mem (k := 280) (by decide +kernel) (by decide +kernel)
theorem zq_281 : (Jvm.Cond.code ({ cls := "ShareRuns$Race", name := "someShareWaits", desc := "()Z" } : Jvm.MethodName) prog_3_method_4_code (1 : Nat) (Option.some Jvm.ClassFile.FieldType.boolean)) ∈ zG := zT_mem (k := 281) (by decide +kernel) (by decide +kernel)
theorem zq_282 : (Jvm.Cond.methodLink "ShareRuns$Race" (87 : Nat) ({ cls := "ShareRuns$Race", name := "oneTick", desc := "()V" } : Jvm.MethodName)) ∈ zG := zT_mem (k := 282) (by decide +kernel) (by decide +kernel)
theorem zq_284 : (Jvm.Cond.instanceMethod ({ cls := "ShareRuns$Race", name := "oneTick", desc := "()V" } : Jvm.MethodName)) ∈ zG := zT_mem (k := 284) (by decide +kernel) (by decide +kernel)
theorem zq_285 : (Jvm.Cond.code ({ cls := "ShareRuns$Race", name := "oneTick", desc := "()V" } : Jvm.MethodName) prog_3_method_6_code (6 : Nat) (Option.none : Option Jvm.ClassFile.FieldType)) ∈ zG := zT_mem (k := 285) (by decide +kernel) (by decide +kernel)
theorem zq_286 : (Jvm.Cond.constantLong "ShareRuns$Race" (94 : Nat) (6364136223846793005 : Int64)) ∈ zG := zT_mem (k := 286) (by decide +kernel) (by decide +kernel)
theorem zq_287 : (Jvm.Cond.constantLong "ShareRuns$Race" (96 : Nat) (1442695040888963407 : Int64)) ∈ zG := zT_mem (k := 287) (by decide +kernel) (by decide +kernel)
theorem zq_288 : (Jvm.Cond.methodLink "ShareRuns$Race" (98 : Nat) ({ cls := "ShareRuns$Race", name := "moverBehind", desc := "(I)I" } : Jvm.MethodName)) ∈ zG := zT_mem (k := 288) (by decide +kernel) (by decide +kernel)
theorem zq_290 : (Jvm.Cond.instanceMethod ({ cls := "ShareRuns$Race", name := "moverBehind", desc := "(I)I" } : Jvm.MethodName)) ∈ zG := zT_mem (k := 290) (by decide +kernel) (by decide +kernel)
theorem zq_291 : (Jvm.Cond.code ({ cls := "ShareRuns$Race", name := "moverBehind", desc := "(I)I" } : Jvm.MethodName) prog_3_method_7_code (4 : Nat) (Option.some Jvm.ClassFile.FieldType.int)) ∈ zG := zT_mem (k := 291) (by decide +kernel) (by decide +kernel)
theorem zq_292 : (Jvm.Cond.methodLink "ShareRuns$Race" (102 : Nat) ({ cls := "ShareRuns$Race", name := "hasWorker", desc := "(I)Z" } : Jvm.MethodName)) ∈ zG := zT_mem (k := 292) (by decide +kernel) (by decide +kernel)
theorem zq_293 : (Jvm.Cond.instanceMethod ({ cls := "ShareRuns$Race", name := "hasWorker", desc := "(I)Z" } : Jvm.MethodName)) ∈ zG := zT_mem (k := 293) (by decide +kernel) (by decide +kernel)
theorem zq_294 : (Jvm.Cond.selects "ShareRuns$Race" ({ cls := "ShareRuns$Race", name := "hasWorker", desc := "(I)Z" } : Jvm.MethodName) ({ cls := "ShareRuns$Race", name := "hasWorker", desc := "(I)Z" } : Jvm.MethodName)) ∈ zG := zT_mem (k := 294) (by decide +kernel) (by decide +kernel)
theorem zq_295 : (Jvm.Cond.code ({ cls := "ShareRuns$Race", name := "hasWorker", desc := "(I)Z" } : Jvm.MethodName) prog_3_method_15_code (2 : Nat) (Option.some Jvm.ClassFile.FieldType.boolean)) ∈ zG := zT_mem (k := 295) (by decide +kernel) (by decide +kernel)
theorem zq_296 : (Jvm.Cond.methodLink "ShareRuns$Race" (106 : Nat) ({ cls := "ShareRuns$Race", name := "takeNext", desc := "(I)V" } : Jvm.MethodName)) ∈ zG := zT_mem (k := 296) (by decide +kernel) (by decide +kernel)
theorem zq_298 : (Jvm.Cond.instanceMethod ({ cls := "ShareRuns$Race", name := "takeNext", desc := "(I)V" } : Jvm.MethodName)) ∈ zG := zT_mem (k := 298) (by decide +kernel) (by decide +kernel)
theorem zq_299 : (Jvm.Cond.code ({ cls := "ShareRuns$Race", name := "takeNext", desc := "(I)V" } : Jvm.MethodName) prog_3_method_8_code (2 : Nat) (Option.none : Option Jvm.ClassFile.FieldType)) ∈ zG := zT_mem (k := 299) (by decide +kernel) (by decide +kernel)
theorem zq_300 : (Jvm.Cond.methodLink "ShareRuns$Race" (110 : Nat) ({ cls := "ShareRuns$Race", name := "spendTick", desc := "(I)Z" } : Jvm.MethodName)) ∈ zG := zT_mem (k := 300) (by decide +kernel) (by decide +kernel)
theorem zq_302 : (Jvm.Cond.instanceMethod ({ cls := "ShareRuns$Race", name := "spendTick", desc := "(I)Z" } : Jvm.MethodName)) ∈ zG := zT_mem (k := 302) (by decide +kernel) (by decide +kernel)
theorem zq_303 : (Jvm.Cond.code ({ cls := "ShareRuns$Race", name := "spendTick", desc := "(I)Z" } : Jvm.MethodName) prog_3_method_9_code (2 : Nat) (Option.some Jvm.ClassFile.FieldType.boolean)) ∈ zG := zT_mem (k := 303) (by decide +kernel) (by decide +kernel)
theorem zq_304 : (Jvm.Cond.methodLink "ShareRuns$Race" (117 : Nat) ({ cls := "ShareRuns$Plan", name := "has", desc := "(I)Z" } : Jvm.MethodName)) ∈ zG := zT_mem (k := 304) (by decide +kernel) (by decide +kernel)
theorem zq_305 : (Jvm.Cond.methodLink "ShareRuns$Race" (120 : Nat) ({ cls := "ShareRuns$Plan", name := "workOf", desc := "(I)I" } : Jvm.MethodName)) ∈ zG := zT_mem (k := 305) (by decide +kernel) (by decide +kernel)
theorem zq_306 : (Jvm.Cond.instanceMethod ({ cls := "ShareRuns$Plan", name := "workOf", desc := "(I)I" } : Jvm.MethodName)) ∈ zG := zT_mem (k := 306) (by decide +kernel) (by decide +kernel)
theorem zq_307 : (Jvm.Cond.selects "ShareRuns$Plan" ({ cls := "ShareRuns$Plan", name := "workOf", desc := "(I)I" } : Jvm.MethodName) ({ cls := "ShareRuns$Plan", name := "workOf", desc := "(I)I" } : Jvm.MethodName)) ∈ zG := zT_mem (k := 307) (by decide +kernel) (by decide +kernel)
theorem zq_308 : (Jvm.Cond.code ({ cls := "ShareRuns$Plan", name := "workOf", desc := "(I)I" } : Jvm.MethodName) prog_2_method_6_code (2 : Nat) (Option.some Jvm.ClassFile.FieldType.int)) ∈ zG := zT_mem (k := 308) (by decide +kernel) (by decide +kernel)
theorem zq_309 : (Jvm.Cond.methodLink "ShareRuns$Race" (123 : Nat) ({ cls := "ShareRuns$Plan", name := "faultsOf", desc := "(I)I" } : Jvm.MethodName)) ∈ zG := zT_mem (k := 309) (by decide +kernel) (by decide +kernel)
theorem zq_310 : (Jvm.Cond.instanceMethod ({ cls := "ShareRuns$Plan", name := "faultsOf", desc := "(I)I" } : Jvm.MethodName)) ∈ zG := zT_mem (k := 310) (by decide +kernel) (by decide +kernel)
theorem zq_311 : (Jvm.Cond.selects "ShareRuns$Plan" ({ cls := "ShareRuns$Plan", name := "faultsOf", desc := "(I)I" } : Jvm.MethodName) ({ cls := "ShareRuns$Plan", name := "faultsOf", desc := "(I)I" } : Jvm.MethodName)) ∈ zG := zT_mem (k := 311) (by decide +kernel) (by decide +kernel)
theorem zq_312 : (Jvm.Cond.code ({ cls := "ShareRuns$Plan", name := "faultsOf", desc := "(I)I" } : Jvm.MethodName) prog_2_method_7_code (2 : Nat) (Option.some Jvm.ClassFile.FieldType.int)) ∈ zG := zT_mem (k := 312) (by decide +kernel) (by decide +kernel)
theorem zq_313 : (Jvm.Cond.methodLink "ShareRuns$Race" (113 : Nat) ({ cls := "ShareRuns$Race", name := "finish", desc := "(II)V" } : Jvm.MethodName)) ∈ zG := zT_mem (k := 313) (by decide +kernel) (by decide +kernel)
theorem zq_315 : (Jvm.Cond.instanceMethod ({ cls := "ShareRuns$Race", name := "finish", desc := "(II)V" } : Jvm.MethodName)) ∈ zG := zT_mem (k := 315) (by decide +kernel) (by decide +kernel)
theorem zq_316 : (Jvm.Cond.code ({ cls := "ShareRuns$Race", name := "finish", desc := "(II)V" } : Jvm.MethodName) prog_3_method_10_code (3 : Nat) (Option.none : Option Jvm.ClassFile.FieldType)) ∈ zG := zT_mem (k := 316) (by decide +kernel) (by decide +kernel)
theorem zq_317 : (Jvm.Cond.methodLink "ShareRuns$Race" (126 : Nat) ({ cls := "ShareRuns$Race", name := "letGo", desc := "(I)V" } : Jvm.MethodName)) ∈ zG := zT_mem (k := 317) (by decide +kernel) (by decide +kernel)
theorem zq_319 : (Jvm.Cond.instanceMethod ({ cls := "ShareRuns$Race", name := "letGo", desc := "(I)V" } : Jvm.MethodName)) ∈ zG := zT_mem (k := 319) (by decide +kernel) (by decide +kernel)
theorem zq_320 : (Jvm.Cond.code ({ cls := "ShareRuns$Race", name := "letGo", desc := "(I)V" } : Jvm.MethodName) prog_3_method_12_code (2 : Nat) (Option.none : Option Jvm.ClassFile.FieldType)) ∈ zG := zT_mem (k := 320) (by decide +kernel) (by decide +kernel)
theorem zq_321 : (Jvm.Cond.methodLink "ShareRuns$Race" (129 : Nat) ({ cls := "ShareRuns$Plan", name := "isSettling", desc := "(I)Z" } : Jvm.MethodName)) ∈ zG := zT_mem (k := 321) (by decide +kernel) (by decide +kernel)
theorem zq_322 : (Jvm.Cond.instanceMethod ({ cls := "ShareRuns$Plan", name := "isSettling", desc := "(I)Z" } : Jvm.MethodName)) ∈ zG := zT_mem (k := 322) (by decide +kernel) (by decide +kernel)
theorem zq_323 : (Jvm.Cond.selects "ShareRuns$Plan" ({ cls := "ShareRuns$Plan", name := "isSettling", desc := "(I)Z" } : Jvm.MethodName) ({ cls := "ShareRuns$Plan", name := "isSettling", desc := "(I)Z" } : Jvm.MethodName)) ∈ zG := zT_mem (k := 323) (by decide +kernel) (by decide +kernel)
theorem zq_324 : (Jvm.Cond.code ({ cls := "ShareRuns$Plan", name := "isSettling", desc := "(I)Z" } : Jvm.MethodName) prog_2_method_8_code (2 : Nat) (Option.some Jvm.ClassFile.FieldType.boolean)) ∈ zG := zT_mem (k := 324) (by decide +kernel) (by decide +kernel)
theorem zq_325 : (Jvm.Cond.methodLink "ShareRuns$Race" (132 : Nat) ({ cls := "ShareRuns$Race", name := "dropBehind", desc := "(I)V" } : Jvm.MethodName)) ∈ zG := zT_mem (k := 325) (by decide +kernel) (by decide +kernel)
theorem zq_327 : (Jvm.Cond.instanceMethod ({ cls := "ShareRuns$Race", name := "dropBehind", desc := "(I)V" } : Jvm.MethodName)) ∈ zG := zT_mem (k := 327) (by decide +kernel) (by decide +kernel)
theorem zq_328 : (Jvm.Cond.code ({ cls := "ShareRuns$Race", name := "dropBehind", desc := "(I)V" } : Jvm.MethodName) prog_3_method_11_code (3 : Nat) (Option.none : Option Jvm.ClassFile.FieldType)) ∈ zG := zT_mem (k := 328) (by decide +kernel) (by decide +kernel)
theorem zq_329 : (Jvm.Cond.methodLink "ShareRuns" (67 : Nat) ({ cls := "ShareRuns$Plan", name := "winner", desc := "()I" } : Jvm.MethodName)) ∈ zG := zT_mem (k := 329) (by decide +kernel) (by decide +kernel)
theorem zq_330 : (Jvm.Cond.instanceMethod ({ cls := "ShareRuns$Plan", name := "winner", desc := "()I" } : Jvm.MethodName)) ∈ zG := zT_mem (k := 330) (by decide +kernel) (by decide +kernel)
theorem zq_331 : (Jvm.Cond.selects "ShareRuns$Plan" ({ cls := "ShareRuns$Plan", name := "winner", desc := "()I" } : Jvm.MethodName) ({ cls := "ShareRuns$Plan", name := "winner", desc := "()I" } : Jvm.MethodName)) ∈ zG := zT_mem (k := 331) (by decide +kernel) (by decide +kernel)
theorem zq_332 : (Jvm.Cond.code ({ cls := "ShareRuns$Plan", name := "winner", desc := "()I" } : Jvm.MethodName) prog_2_method_9_code (2 : Nat) (Option.some Jvm.ClassFile.FieldType.int)) ∈ zG := zT_mem (k := 332) (by decide +kernel) (by decide +kernel)
theorem zq_333 : (Jvm.Cond.methodLink "ShareRunsLaw" (80 : Nat) ({ cls := "ShareRunsLaw", name := "answer", desc := "(LShareRuns;[J)I" } : Jvm.MethodName)) ∈ zG := zT_mem (k := 333) (by decide +kernel) (by decide +kernel)
theorem zq_334 : (Jvm.Cond.static ({ cls := "ShareRunsLaw", name := "answer", desc := "(LShareRuns;[J)I" } : Jvm.MethodName)) ∈ zG := zT_mem (k := 334) (by decide +kernel) (by decide +kernel)
theorem zq_335 : (Jvm.Cond.codeWith ({ cls := "ShareRunsLaw", name := "answer", desc := "(LShareRuns;[J)I" } : Jvm.MethodName) method_6_code (3 : Nat) (Option.some Jvm.ClassFile.FieldType.int) [((0 : Nat), (7 : Nat), (10 : Nat), (29 : Nat))]) ∈ zG := zT_mem (k := 335) (by decide +kernel) (by decide +kernel)
theorem zq_336 : (Jvm.Cond.classLink "ShareRunsLaw" (29 : Nat) "java/lang/IllegalStateException") ∈ zG := zT_mem (k := 336) (by decide +kernel) (by decide +kernel)
theorem zq_337 : (Jvm.Cond.methodLink "ShareRunsLaw" (25 : Nat) ({ cls := "ShareRuns", name := "answer", desc := "()J" } : Jvm.MethodName)) ∈ zG := zT_mem (k := 337) (by decide +kernel) (by decide +kernel)
theorem zq_338 : (Jvm.Cond.instanceMethod ({ cls := "ShareRuns", name := "answer", desc := "()J" } : Jvm.MethodName)) ∈ zG := zT_mem (k := 338) (by decide +kernel) (by decide +kernel)
theorem zq_339 : (Jvm.Cond.selects "ShareRuns" ({ cls := "ShareRuns", name := "answer", desc := "()J" } : Jvm.MethodName) ({ cls := "ShareRuns", name := "answer", desc := "()J" } : Jvm.MethodName)) ∈ zG := zT_mem (k := 339) (by decide +kernel) (by decide +kernel)
theorem zq_340 : (Jvm.Cond.code ({ cls := "ShareRuns", name := "answer", desc := "()J" } : Jvm.MethodName) prog_1_method_5_code (1 : Nat) (Option.some Jvm.ClassFile.FieldType.long)) ∈ zG := zT_mem (k := 340) (by decide +kernel) (by decide +kernel)
theorem zq_341 : (Jvm.Cond.methodLink "ShareRuns" (71 : Nat) ({ cls := "ShareRuns", name := "needKnown", desc := "()V" } : Jvm.MethodName)) ∈ zG := zT_mem (k := 341) (by decide +kernel) (by decide +kernel)
theorem zq_343 : (Jvm.Cond.instanceMethod ({ cls := "ShareRuns", name := "needKnown", desc := "()V" } : Jvm.MethodName)) ∈ zG := zT_mem (k := 343) (by decide +kernel) (by decide +kernel)
theorem zq_344 : (Jvm.Cond.code ({ cls := "ShareRuns", name := "needKnown", desc := "()V" } : Jvm.MethodName) prog_1_method_13_code (1 : Nat) (Option.none : Option Jvm.ClassFile.FieldType)) ∈ zG := zT_mem (k := 344) (by decide +kernel) (by decide +kernel)
theorem zq_345 : (Jvm.Cond.classLink "ShareRuns" (119 : Nat) "java/lang/IllegalStateException") ∈ zG := zT_mem (k := 345) (by decide +kernel) (by decide +kernel)
theorem zq_346 : (Jvm.Cond.instantiable "java/lang/IllegalStateException" (6 : Nat)) ∈ zG := zT_mem (k := 346) (by decide +kernel) (by decide +kernel)
theorem zq_348 : (Jvm.Cond.selects "java/lang/IllegalStateException" ({ cls := "java/lang/Throwable", name := "fillInStackTrace", desc := "(I)Ljava/lang/Throwable;" } : Jvm.MethodName) ({ cls := "java/lang/Throwable", name := "fillInStackTrace", desc := "(I)Ljava/lang/Throwable;" } : Jvm.MethodName)) ∈ zG := zT_mem (k := 348) (by decide +kernel) (by decide +kernel)
theorem zq_355 : (Jvm.Cond.methodLink "ShareRuns" (123 : Nat) ({ cls := "java/lang/IllegalStateException", name := "<init>", desc := "(Ljava/lang/String;)V" } : Jvm.MethodName)) ∈ zG := zT_mem (k := 355) (by decide +kernel) (by decide +kernel)
theorem zq_356 : (Jvm.Cond.instanceMethod ({ cls := "java/lang/IllegalStateException", name := "<init>", desc := "(Ljava/lang/String;)V" } : Jvm.MethodName)) ∈ zG := zT_mem (k := 356) (by decide +kernel) (by decide +kernel)
theorem zq_357 : (Jvm.Cond.code ({ cls := "java/lang/IllegalStateException", name := "<init>", desc := "(Ljava/lang/String;)V" } : Jvm.MethodName) prog_8_method_2_code (2 : Nat) (Option.none : Option Jvm.ClassFile.FieldType)) ∈ zG := zT_mem (k := 357) (by decide +kernel) (by decide +kernel)
theorem zq_358 : (Jvm.Cond.methodLink "java/lang/IllegalStateException" (7 : Nat) ({ cls := "java/lang/RuntimeException", name := "<init>", desc := "(Ljava/lang/String;)V" } : Jvm.MethodName)) ∈ zG := zT_mem (k := 358) (by decide +kernel) (by decide +kernel)
theorem zq_361 : (Jvm.Cond.methodLink "ShareRuns" (74 : Nat) ({ cls := "ShareRuns$Plan", name := "outcome", desc := "()J" } : Jvm.MethodName)) ∈ zG := zT_mem (k := 361) (by decide +kernel) (by decide +kernel)
theorem zq_362 : (Jvm.Cond.instanceMethod ({ cls := "ShareRuns$Plan", name := "outcome", desc := "()J" } : Jvm.MethodName)) ∈ zG := zT_mem (k := 362) (by decide +kernel) (by decide +kernel)
theorem zq_363 : (Jvm.Cond.selects "ShareRuns$Plan" ({ cls := "ShareRuns$Plan", name := "outcome", desc := "()J" } : Jvm.MethodName) ({ cls := "ShareRuns$Plan", name := "outcome", desc := "()J" } : Jvm.MethodName)) ∈ zG := zT_mem (k := 363) (by decide +kernel) (by decide +kernel)
theorem zq_364 : (Jvm.Cond.code ({ cls := "ShareRuns$Plan", name := "outcome", desc := "()J" } : Jvm.MethodName) prog_2_method_11_code (2 : Nat) (Option.some Jvm.ClassFile.FieldType.long)) ∈ zG := zT_mem (k := 364) (by decide +kernel) (by decide +kernel)
theorem zq_365 : (Jvm.Cond.methodLink "ShareRuns$Plan" (49 : Nat) ({ cls := "ShareRuns$Plan", name := "winner", desc := "()I" } : Jvm.MethodName)) ∈ zG := zT_mem (k := 365) (by decide +kernel) (by decide +kernel)
theorem zq_366 : (Jvm.Cond.methodLink "ShareRuns$Plan" (53 : Nat) ({ cls := "ShareRuns$Plan", name := "sumOfWorths", desc := "()J" } : Jvm.MethodName)) ∈ zG := zT_mem (k := 366) (by decide +kernel) (by decide +kernel)
theorem zq_368 : (Jvm.Cond.instanceMethod ({ cls := "ShareRuns$Plan", name := "sumOfWorths", desc := "()J" } : Jvm.MethodName)) ∈ zG := zT_mem (k := 368) (by decide +kernel) (by decide +kernel)
theorem zq_369 : (Jvm.Cond.code ({ cls := "ShareRuns$Plan", name := "sumOfWorths", desc := "()J" } : Jvm.MethodName) prog_2_method_12_code (4 : Nat) (Option.some Jvm.ClassFile.FieldType.long)) ∈ zG := zT_mem (k := 369) (by decide +kernel) (by decide +kernel)
theorem zq_370 : (Jvm.Cond.methodLink "ShareRunsLaw" (84 : Nat) ({ cls := "ShareRunsLaw", name := "ticks", desc := "(LShareRuns;I[J)I" } : Jvm.MethodName)) ∈ zG := zT_mem (k := 370) (by decide +kernel) (by decide +kernel)
theorem zq_371 : (Jvm.Cond.static ({ cls := "ShareRunsLaw", name := "ticks", desc := "(LShareRuns;I[J)I" } : Jvm.MethodName)) ∈ zG := zT_mem (k := 371) (by decide +kernel) (by decide +kernel)
theorem zq_372 : (Jvm.Cond.codeWith ({ cls := "ShareRunsLaw", name := "ticks", desc := "(LShareRuns;I[J)I" } : Jvm.MethodName) method_7_code (4 : Nat) (Option.some Jvm.ClassFile.FieldType.int) [((0 : Nat), (9 : Nat), (12 : Nat), (29 : Nat))]) ∈ zG := zT_mem (k := 372) (by decide +kernel) (by decide +kernel)
theorem zq_373 : (Jvm.Cond.methodLink "ShareRunsLaw" (31 : Nat) ({ cls := "ShareRuns", name := "ticks", desc := "(I)I" } : Jvm.MethodName)) ∈ zG := zT_mem (k := 373) (by decide +kernel) (by decide +kernel)
theorem zq_374 : (Jvm.Cond.instanceMethod ({ cls := "ShareRuns", name := "ticks", desc := "(I)I" } : Jvm.MethodName)) ∈ zG := zT_mem (k := 374) (by decide +kernel) (by decide +kernel)
theorem zq_375 : (Jvm.Cond.selects "ShareRuns" ({ cls := "ShareRuns", name := "ticks", desc := "(I)I" } : Jvm.MethodName) ({ cls := "ShareRuns", name := "ticks", desc := "(I)I" } : Jvm.MethodName)) ∈ zG := zT_mem (k := 375) (by decide +kernel) (by decide +kernel)
theorem zq_376 : (Jvm.Cond.code ({ cls := "ShareRuns", name := "ticks", desc := "(I)I" } : Jvm.MethodName) prog_1_method_6_code (2 : Nat) (Option.some Jvm.ClassFile.FieldType.int)) ∈ zG := zT_mem (k := 376) (by decide +kernel) (by decide +kernel)
theorem zq_377 : (Jvm.Cond.methodLink "ShareRuns" (78 : Nat) ({ cls := "ShareRuns$Race", name := "countedTicks", desc := "()I" } : Jvm.MethodName)) ∈ zG := zT_mem (k := 377) (by decide +kernel) (by decide +kernel)
theorem zq_378 : (Jvm.Cond.instanceMethod ({ cls := "ShareRuns$Race", name := "countedTicks", desc := "()I" } : Jvm.MethodName)) ∈ zG := zT_mem (k := 378) (by decide +kernel) (by decide +kernel)
theorem zq_379 : (Jvm.Cond.selects "ShareRuns$Race" ({ cls := "ShareRuns$Race", name := "countedTicks", desc := "()I" } : Jvm.MethodName) ({ cls := "ShareRuns$Race", name := "countedTicks", desc := "()I" } : Jvm.MethodName)) ∈ zG := zT_mem (k := 379) (by decide +kernel) (by decide +kernel)
theorem zq_380 : (Jvm.Cond.code ({ cls := "ShareRuns$Race", name := "countedTicks", desc := "()I" } : Jvm.MethodName) prog_3_method_13_code (5 : Nat) (Option.some Jvm.ClassFile.FieldType.int)) ∈ zG := zT_mem (k := 380) (by decide +kernel) (by decide +kernel)
theorem zq_381 : (Jvm.Cond.methodLink "ShareRuns$Race" (135 : Nat) ({ cls := "ShareRuns$Plan", name := "winner", desc := "()I" } : Jvm.MethodName)) ∈ zG := zT_mem (k := 381) (by decide +kernel) (by decide +kernel)
theorem zq_382 : (Jvm.Cond.methodLink "ShareRuns" (81 : Nat) ({ cls := "ShareRuns$Race", name := "allTicks", desc := "()I" } : Jvm.MethodName)) ∈ zG := zT_mem (k := 382) (by decide +kernel) (by decide +kernel)
theorem zq_383 : (Jvm.Cond.instanceMethod ({ cls := "ShareRuns$Race", name := "allTicks", desc := "()I" } : Jvm.MethodName)) ∈ zG := zT_mem (k := 383) (by decide +kernel) (by decide +kernel)
theorem zq_384 : (Jvm.Cond.selects "ShareRuns$Race" ({ cls := "ShareRuns$Race", name := "allTicks", desc := "()I" } : Jvm.MethodName) ({ cls := "ShareRuns$Race", name := "allTicks", desc := "()I" } : Jvm.MethodName)) ∈ zG := zT_mem (k := 384) (by decide +kernel) (by decide +kernel)
theorem zq_385 : (Jvm.Cond.code ({ cls := "ShareRuns$Race", name := "allTicks", desc := "()I" } : Jvm.MethodName) prog_3_method_14_code (1 : Nat) (Option.some Jvm.ClassFile.FieldType.int)) ∈ zG := zT_mem (k := 385) (by decide +kernel) (by decide +kernel)
theorem zq_386 : (Jvm.Cond.methodLink "ShareRunsLaw" (88 : Nat) ({ cls := "ShareRunsLaw", name := "worked", desc := "(LShareRuns;I[J)I" } : Jvm.MethodName)) ∈ zG := zT_mem (k := 386) (by decide +kernel) (by decide +kernel)
theorem zq_387 : (Jvm.Cond.static ({ cls := "ShareRunsLaw", name := "worked", desc := "(LShareRuns;I[J)I" } : Jvm.MethodName)) ∈ zG := zT_mem (k := 387) (by decide +kernel) (by decide +kernel)
theorem zq_388 : (Jvm.Cond.codeWith ({ cls := "ShareRunsLaw", name := "worked", desc := "(LShareRuns;I[J)I" } : Jvm.MethodName) method_8_code (4 : Nat) (Option.some Jvm.ClassFile.FieldType.int) [((0 : Nat), (9 : Nat), (12 : Nat), (29 : Nat)), ((0 : Nat), (9 : Nat), (15 : Nat), (13 : Nat))]) ∈ zG := zT_mem (k := 388) (by decide +kernel) (by decide +kernel)
theorem zq_389 : (Jvm.Cond.methodLink "ShareRunsLaw" (35 : Nat) ({ cls := "ShareRuns", name := "worked", desc := "(I)I" } : Jvm.MethodName)) ∈ zG := zT_mem (k := 389) (by decide +kernel) (by decide +kernel)
theorem zq_390 : (Jvm.Cond.instanceMethod ({ cls := "ShareRuns", name := "worked", desc := "(I)I" } : Jvm.MethodName)) ∈ zG := zT_mem (k := 390) (by decide +kernel) (by decide +kernel)
theorem zq_391 : (Jvm.Cond.selects "ShareRuns" ({ cls := "ShareRuns", name := "worked", desc := "(I)I" } : Jvm.MethodName) ({ cls := "ShareRuns", name := "worked", desc := "(I)I" } : Jvm.MethodName)) ∈ zG := zT_mem (k := 391) (by decide +kernel) (by decide +kernel)
theorem zq_392 : (Jvm.Cond.code ({ cls := "ShareRuns", name := "worked", desc := "(I)I" } : Jvm.MethodName) prog_1_method_7_code (2 : Nat) (Option.some Jvm.ClassFile.FieldType.int)) ∈ zG := zT_mem (k := 392) (by decide +kernel) (by decide +kernel)
theorem zq_393 : (Jvm.Cond.methodLink "ShareRuns" (84 : Nat) ({ cls := "ShareRuns$Race", name := "hasWorker", desc := "(I)Z" } : Jvm.MethodName)) ∈ zG := zT_mem (k := 393) (by decide +kernel) (by decide +kernel)
theorem zq_395 : (Jvm.Cond.methodLink "ShareRuns" (92 : Nat) ({ cls := "ShareRuns$Race", name := "movesOf", desc := "(I)I" } : Jvm.MethodName)) ∈ zG := zT_mem (k := 395) (by decide +kernel) (by decide +kernel)
theorem zq_396 : (Jvm.Cond.instanceMethod ({ cls := "ShareRuns$Race", name := "movesOf", desc := "(I)I" } : Jvm.MethodName)) ∈ zG := zT_mem (k := 396) (by decide +kernel) (by decide +kernel)
theorem zq_397 : (Jvm.Cond.selects "ShareRuns$Race" ({ cls := "ShareRuns$Race", name := "movesOf", desc := "(I)I" } : Jvm.MethodName) ({ cls := "ShareRuns$Race", name := "movesOf", desc := "(I)I" } : Jvm.MethodName)) ∈ zG := zT_mem (k := 397) (by decide +kernel) (by decide +kernel)
theorem zq_398 : (Jvm.Cond.code ({ cls := "ShareRuns$Race", name := "movesOf", desc := "(I)I" } : Jvm.MethodName) prog_3_method_16_code (2 : Nat) (Option.some Jvm.ClassFile.FieldType.int)) ∈ zG := zT_mem (k := 398) (by decide +kernel) (by decide +kernel)
theorem zq_399 : (Jvm.Cond.methodLink "ShareRunsLaw" (91 : Nat) ({ cls := "ShareRunsLaw", name := "done", desc := "(LShareRuns;I[J)I" } : Jvm.MethodName)) ∈ zG := zT_mem (k := 399) (by decide +kernel) (by decide +kernel)
theorem zq_400 : (Jvm.Cond.static ({ cls := "ShareRunsLaw", name := "done", desc := "(LShareRuns;I[J)I" } : Jvm.MethodName)) ∈ zG := zT_mem (k := 400) (by decide +kernel) (by decide +kernel)
theorem zq_401 : (Jvm.Cond.codeWith ({ cls := "ShareRunsLaw", name := "done", desc := "(LShareRuns;I[J)I" } : Jvm.MethodName) method_9_code (4 : Nat) (Option.some Jvm.ClassFile.FieldType.int) [((0 : Nat), (9 : Nat), (12 : Nat), (29 : Nat)), ((0 : Nat), (9 : Nat), (15 : Nat), (13 : Nat))]) ∈ zG := zT_mem (k := 401) (by decide +kernel) (by decide +kernel)
theorem zq_402 : (Jvm.Cond.methodLink "ShareRunsLaw" (38 : Nat) ({ cls := "ShareRuns", name := "done", desc := "(I)I" } : Jvm.MethodName)) ∈ zG := zT_mem (k := 402) (by decide +kernel) (by decide +kernel)
theorem zq_403 : (Jvm.Cond.instanceMethod ({ cls := "ShareRuns", name := "done", desc := "(I)I" } : Jvm.MethodName)) ∈ zG := zT_mem (k := 403) (by decide +kernel) (by decide +kernel)
theorem zq_404 : (Jvm.Cond.selects "ShareRuns" ({ cls := "ShareRuns", name := "done", desc := "(I)I" } : Jvm.MethodName) ({ cls := "ShareRuns", name := "done", desc := "(I)I" } : Jvm.MethodName)) ∈ zG := zT_mem (k := 404) (by decide +kernel) (by decide +kernel)
theorem zq_405 : (Jvm.Cond.code ({ cls := "ShareRuns", name := "done", desc := "(I)I" } : Jvm.MethodName) prog_1_method_8_code (2 : Nat) (Option.some Jvm.ClassFile.FieldType.int)) ∈ zG := zT_mem (k := 405) (by decide +kernel) (by decide +kernel)
theorem zq_406 : (Jvm.Cond.methodLink "ShareRuns" (96 : Nat) ({ cls := "ShareRuns$Race", name := "hasPlace", desc := "(I)Z" } : Jvm.MethodName)) ∈ zG := zT_mem (k := 406) (by decide +kernel) (by decide +kernel)
theorem zq_407 : (Jvm.Cond.instanceMethod ({ cls := "ShareRuns$Race", name := "hasPlace", desc := "(I)Z" } : Jvm.MethodName)) ∈ zG := zT_mem (k := 407) (by decide +kernel) (by decide +kernel)
theorem zq_408 : (Jvm.Cond.selects "ShareRuns$Race" ({ cls := "ShareRuns$Race", name := "hasPlace", desc := "(I)Z" } : Jvm.MethodName) ({ cls := "ShareRuns$Race", name := "hasPlace", desc := "(I)Z" } : Jvm.MethodName)) ∈ zG := zT_mem (k := 408) (by decide +kernel) (by decide +kernel)
theorem zq_409 : (Jvm.Cond.code ({ cls := "ShareRuns$Race", name := "hasPlace", desc := "(I)Z" } : Jvm.MethodName) prog_3_method_17_code (2 : Nat) (Option.some Jvm.ClassFile.FieldType.boolean)) ∈ zG := zT_mem (k := 409) (by decide +kernel) (by decide +kernel)
theorem zq_411 : (Jvm.Cond.methodLink "ShareRuns" (101 : Nat) ({ cls := "ShareRuns$Race", name := "shareInPlace", desc := "(I)I" } : Jvm.MethodName)) ∈ zG := zT_mem (k := 411) (by decide +kernel) (by decide +kernel)
theorem zq_412 : (Jvm.Cond.instanceMethod ({ cls := "ShareRuns$Race", name := "shareInPlace", desc := "(I)I" } : Jvm.MethodName)) ∈ zG := zT_mem (k := 412) (by decide +kernel) (by decide +kernel)
theorem zq_413 : (Jvm.Cond.selects "ShareRuns$Race" ({ cls := "ShareRuns$Race", name := "shareInPlace", desc := "(I)I" } : Jvm.MethodName) ({ cls := "ShareRuns$Race", name := "shareInPlace", desc := "(I)I" } : Jvm.MethodName)) ∈ zG := zT_mem (k := 413) (by decide +kernel) (by decide +kernel)
theorem zq_414 : (Jvm.Cond.code ({ cls := "ShareRuns$Race", name := "shareInPlace", desc := "(I)I" } : Jvm.MethodName) prog_3_method_18_code (2 : Nat) (Option.some Jvm.ClassFile.FieldType.int)) ∈ zG := zT_mem (k := 414) (by decide +kernel) (by decide +kernel)
theorem zq_415 : (Jvm.Cond.methodLink "ShareRuns$Race" (138 : Nat) ({ cls := "ShareRuns$Race", name := "hasPlace", desc := "(I)Z" } : Jvm.MethodName)) ∈ zG := zT_mem (k := 415) (by decide +kernel) (by decide +kernel)
theorem zq_416 : (Jvm.Cond.methodLink "ShareRunsLaw" (94 : Nat) ({ cls := "ShareRunsLaw", name := "by", desc := "(LShareRuns;I[J)I" } : Jvm.MethodName)) ∈ zG := zT_mem (k := 416) (by decide +kernel) (by decide +kernel)
theorem zq_417 : (Jvm.Cond.static ({ cls := "ShareRunsLaw", name := "by", desc := "(LShareRuns;I[J)I" } : Jvm.MethodName)) ∈ zG := zT_mem (k := 417) (by decide +kernel) (by decide +kernel)
theorem zq_418 : (Jvm.Cond.codeWith ({ cls := "ShareRunsLaw", name := "by", desc := "(LShareRuns;I[J)I" } : Jvm.MethodName) method_10_code (4 : Nat) (Option.some Jvm.ClassFile.FieldType.int) [((0 : Nat), (9 : Nat), (12 : Nat), (29 : Nat)), ((0 : Nat), (9 : Nat), (15 : Nat), (13 : Nat))]) ∈ zG := zT_mem (k := 418) (by decide +kernel) (by decide +kernel)
theorem zq_419 : (Jvm.Cond.methodLink "ShareRunsLaw" (41 : Nat) ({ cls := "ShareRuns", name := "by", desc := "(I)I" } : Jvm.MethodName)) ∈ zG := zT_mem (k := 419) (by decide +kernel) (by decide +kernel)
theorem zq_420 : (Jvm.Cond.instanceMethod ({ cls := "ShareRuns", name := "by", desc := "(I)I" } : Jvm.MethodName)) ∈ zG := zT_mem (k := 420) (by decide +kernel) (by decide +kernel)
theorem zq_421 : (Jvm.Cond.selects "ShareRuns" ({ cls := "ShareRuns", name := "by", desc := "(I)I" } : Jvm.MethodName) ({ cls := "ShareRuns", name := "by", desc := "(I)I" } : Jvm.MethodName)) ∈ zG := zT_mem (k := 421) (by decide +kernel) (by decide +kernel)
theorem zq_422 : (Jvm.Cond.code ({ cls := "ShareRuns", name := "by", desc := "(I)I" } : Jvm.MethodName) prog_1_method_9_code (2 : Nat) (Option.some Jvm.ClassFile.FieldType.int)) ∈ zG := zT_mem (k := 422) (by decide +kernel) (by decide +kernel)
theorem zq_423 : (Jvm.Cond.methodLink "ShareRuns" (104 : Nat) ({ cls := "ShareRuns$Plan", name := "isBehindWinner", desc := "(I)Z" } : Jvm.MethodName)) ∈ zG := zT_mem (k := 423) (by decide +kernel) (by decide +kernel)
theorem zq_424 : (Jvm.Cond.instanceMethod ({ cls := "ShareRuns$Plan", name := "isBehindWinner", desc := "(I)Z" } : Jvm.MethodName)) ∈ zG := zT_mem (k := 424) (by decide +kernel) (by decide +kernel)
theorem zq_425 : (Jvm.Cond.selects "ShareRuns$Plan" ({ cls := "ShareRuns$Plan", name := "isBehindWinner", desc := "(I)Z" } : Jvm.MethodName) ({ cls := "ShareRuns$Plan", name := "isBehindWinner", desc := "(I)Z" } : Jvm.MethodName)) ∈ zG := zT_mem (k := 425) (by decide +kernel) (by decide +kernel)
theorem zq_426 : (Jvm.Cond.code ({ cls := "ShareRuns$Plan", name := "isBehindWinner", desc := "(I)Z" } : Jvm.MethodName) prog_2_method_10_code (3 : Nat) (Option.some Jvm.ClassFile.FieldType.boolean)) ∈ zG := zT_mem (k := 426) (by decide +kernel) (by decide +kernel)
theorem zq_427 : (Jvm.Cond.methodLink "ShareRuns" (107 : Nat) ({ cls := "ShareRuns$Race", name := "doerOf", desc := "(I)I" } : Jvm.MethodName)) ∈ zG := zT_mem (k := 427) (by decide +kernel) (by decide +kernel)
theorem zq_428 : (Jvm.Cond.instanceMethod ({ cls := "ShareRuns$Race", name := "doerOf", desc := "(I)I" } : Jvm.MethodName)) ∈ zG := zT_mem (k := 428) (by decide +kernel) (by decide +kernel)
theorem zq_429 : (Jvm.Cond.selects "ShareRuns$Race" ({ cls := "ShareRuns$Race", name := "doerOf", desc := "(I)I" } : Jvm.MethodName) ({ cls := "ShareRuns$Race", name := "doerOf", desc := "(I)I" } : Jvm.MethodName)) ∈ zG := zT_mem (k := 429) (by decide +kernel) (by decide +kernel)
theorem zq_430 : (Jvm.Cond.code ({ cls := "ShareRuns$Race", name := "doerOf", desc := "(I)I" } : Jvm.MethodName) prog_3_method_19_code (2 : Nat) (Option.some Jvm.ClassFile.FieldType.int)) ∈ zG := zT_mem (k := 430) (by decide +kernel) (by decide +kernel)
theorem zq_431 : (Jvm.Cond.methodLink "ShareRunsLaw" (97 : Nat) ({ cls := "ShareRunsLaw", name := "failed", desc := "(LShareRuns;I[J)I" } : Jvm.MethodName)) ∈ zG := zT_mem (k := 431) (by decide +kernel) (by decide +kernel)
theorem zq_432 : (Jvm.Cond.static ({ cls := "ShareRunsLaw", name := "failed", desc := "(LShareRuns;I[J)I" } : Jvm.MethodName)) ∈ zG := zT_mem (k := 432) (by decide +kernel) (by decide +kernel)
theorem zq_433 : (Jvm.Cond.codeWith ({ cls := "ShareRunsLaw", name := "failed", desc := "(LShareRuns;I[J)I" } : Jvm.MethodName) method_11_code (4 : Nat) (Option.some Jvm.ClassFile.FieldType.int) [((0 : Nat), (9 : Nat), (12 : Nat), (29 : Nat)), ((0 : Nat), (9 : Nat), (15 : Nat), (13 : Nat))]) ∈ zG := zT_mem (k := 433) (by decide +kernel) (by decide +kernel)
theorem zq_434 : (Jvm.Cond.methodLink "ShareRunsLaw" (44 : Nat) ({ cls := "ShareRuns", name := "failed", desc := "(I)I" } : Jvm.MethodName)) ∈ zG := zT_mem (k := 434) (by decide +kernel) (by decide +kernel)
theorem zq_435 : (Jvm.Cond.instanceMethod ({ cls := "ShareRuns", name := "failed", desc := "(I)I" } : Jvm.MethodName)) ∈ zG := zT_mem (k := 435) (by decide +kernel) (by decide +kernel)
theorem zq_436 : (Jvm.Cond.selects "ShareRuns" ({ cls := "ShareRuns", name := "failed", desc := "(I)I" } : Jvm.MethodName) ({ cls := "ShareRuns", name := "failed", desc := "(I)I" } : Jvm.MethodName)) ∈ zG := zT_mem (k := 436) (by decide +kernel) (by decide +kernel)
theorem zq_437 : (Jvm.Cond.code ({ cls := "ShareRuns", name := "failed", desc := "(I)I" } : Jvm.MethodName) prog_1_method_10_code (2 : Nat) (Option.some Jvm.ClassFile.FieldType.int)) ∈ zG := zT_mem (k := 437) (by decide +kernel) (by decide +kernel)
theorem zq_438 : (Jvm.Cond.methodLink "ShareRuns" (110 : Nat) ({ cls := "ShareRuns$Race", name := "failuresOf", desc := "(I)I" } : Jvm.MethodName)) ∈ zG := zT_mem (k := 438) (by decide +kernel) (by decide +kernel)
theorem zq_439 : (Jvm.Cond.instanceMethod ({ cls := "ShareRuns$Race", name := "failuresOf", desc := "(I)I" } : Jvm.MethodName)) ∈ zG := zT_mem (k := 439) (by decide +kernel) (by decide +kernel)
theorem zq_440 : (Jvm.Cond.selects "ShareRuns$Race" ({ cls := "ShareRuns$Race", name := "failuresOf", desc := "(I)I" } : Jvm.MethodName) ({ cls := "ShareRuns$Race", name := "failuresOf", desc := "(I)I" } : Jvm.MethodName)) ∈ zG := zT_mem (k := 440) (by decide +kernel) (by decide +kernel)
theorem zq_441 : (Jvm.Cond.code ({ cls := "ShareRuns$Race", name := "failuresOf", desc := "(I)I" } : Jvm.MethodName) prog_3_method_20_code (2 : Nat) (Option.some Jvm.ClassFile.FieldType.int)) ∈ zG := zT_mem (k := 441) (by decide +kernel) (by decide +kernel)
theorem zq_442 : (Jvm.Cond.methodLink "ShareRunsLaw" (100 : Nat) ({ cls := "ShareRunsLaw", name := "at", desc := "(LShareRuns;I[J)I" } : Jvm.MethodName)) ∈ zG := zT_mem (k := 442) (by decide +kernel) (by decide +kernel)
theorem zq_443 : (Jvm.Cond.static ({ cls := "ShareRunsLaw", name := "at", desc := "(LShareRuns;I[J)I" } : Jvm.MethodName)) ∈ zG := zT_mem (k := 443) (by decide +kernel) (by decide +kernel)
theorem zq_444 : (Jvm.Cond.codeWith ({ cls := "ShareRunsLaw", name := "at", desc := "(LShareRuns;I[J)I" } : Jvm.MethodName) method_12_code (4 : Nat) (Option.some Jvm.ClassFile.FieldType.int) [((0 : Nat), (9 : Nat), (12 : Nat), (29 : Nat)), ((0 : Nat), (9 : Nat), (15 : Nat), (13 : Nat))]) ∈ zG := zT_mem (k := 444) (by decide +kernel) (by decide +kernel)
theorem zq_445 : (Jvm.Cond.methodLink "ShareRunsLaw" (47 : Nat) ({ cls := "ShareRuns", name := "at", desc := "(I)I" } : Jvm.MethodName)) ∈ zG := zT_mem (k := 445) (by decide +kernel) (by decide +kernel)
theorem zq_446 : (Jvm.Cond.instanceMethod ({ cls := "ShareRuns", name := "at", desc := "(I)I" } : Jvm.MethodName)) ∈ zG := zT_mem (k := 446) (by decide +kernel) (by decide +kernel)
theorem zq_447 : (Jvm.Cond.selects "ShareRuns" ({ cls := "ShareRuns", name := "at", desc := "(I)I" } : Jvm.MethodName) ({ cls := "ShareRuns", name := "at", desc := "(I)I" } : Jvm.MethodName)) ∈ zG := zT_mem (k := 447) (by decide +kernel) (by decide +kernel)
theorem zq_448 : (Jvm.Cond.code ({ cls := "ShareRuns", name := "at", desc := "(I)I" } : Jvm.MethodName) prog_1_method_11_code (2 : Nat) (Option.some Jvm.ClassFile.FieldType.int)) ∈ zG := zT_mem (k := 448) (by decide +kernel) (by decide +kernel)
theorem zq_449 : (Jvm.Cond.methodLink "ShareRuns" (113 : Nat) ({ cls := "ShareRuns$Race", name := "doneTickOf", desc := "(I)I" } : Jvm.MethodName)) ∈ zG := zT_mem (k := 449) (by decide +kernel) (by decide +kernel)
theorem zq_450 : (Jvm.Cond.instanceMethod ({ cls := "ShareRuns$Race", name := "doneTickOf", desc := "(I)I" } : Jvm.MethodName)) ∈ zG := zT_mem (k := 450) (by decide +kernel) (by decide +kernel)
theorem zq_451 : (Jvm.Cond.selects "ShareRuns$Race" ({ cls := "ShareRuns$Race", name := "doneTickOf", desc := "(I)I" } : Jvm.MethodName) ({ cls := "ShareRuns$Race", name := "doneTickOf", desc := "(I)I" } : Jvm.MethodName)) ∈ zG := zT_mem (k := 451) (by decide +kernel) (by decide +kernel)
theorem zq_452 : (Jvm.Cond.code ({ cls := "ShareRuns$Race", name := "doneTickOf", desc := "(I)I" } : Jvm.MethodName) prog_3_method_21_code (2 : Nat) (Option.some Jvm.ClassFile.FieldType.int)) ∈ zG := zT_mem (k := 452) (by decide +kernel) (by decide +kernel)
theorem zq_453 : (Jvm.Cond.classLink "ShareRunsLaw" (59 : Nat) "ShareRunsModel") ∈ zG := zT_mem (k := 453) (by decide +kernel) (by decide +kernel)
theorem zq_454 : (Jvm.Cond.instantiable "ShareRunsModel" (16 : Nat)) ∈ zG := zT_mem (k := 454) (by decide +kernel) (by decide +kernel)
theorem zq_455 : (Jvm.Cond.methodLink "ShareRunsLaw" (61 : Nat) ({ cls := "ShareRunsModel", name := "<init>", desc := "(I)V" } : Jvm.MethodName)) ∈ zG := zT_mem (k := 455) (by decide +kernel) (by decide +kernel)
theorem zq_456 : (Jvm.Cond.instanceMethod ({ cls := "ShareRunsModel", name := "<init>", desc := "(I)V" } : Jvm.MethodName)) ∈ zG := zT_mem (k := 456) (by decide +kernel) (by decide +kernel)
theorem zq_457 : (Jvm.Cond.code ({ cls := "ShareRunsModel", name := "<init>", desc := "(I)V" } : Jvm.MethodName) prog_5_method_1_code (3 : Nat) (Option.none : Option Jvm.ClassFile.FieldType)) ∈ zG := zT_mem (k := 457) (by decide +kernel) (by decide +kernel)
theorem zq_458 : (Jvm.Cond.methodLink "ShareRunsModel" (1 : Nat) ({ cls := "java/lang/Object", name := "<init>", desc := "()V" } : Jvm.MethodName)) ∈ zG := zT_mem (k := 458) (by decide +kernel) (by decide +kernel)
theorem zq_459 : (Jvm.Cond.fieldLink "ShareRunsModel" (46 : Nat) "ShareRunsModel" "thrown" "I") ∈ zG := zT_mem (k := 459) (by decide +kernel) (by decide +kernel)
theorem zq_460 : (Jvm.Cond.fieldLink "ShareRunsModel" (42 : Nat) "ShareRunsModel" "shares" "I") ∈ zG := zT_mem (k := 460) (by decide +kernel) (by decide +kernel)
theorem zq_461 : (Jvm.Cond.fieldLink "ShareRunsModel" (7 : Nat) "ShareRunsModel" "work" "[I") ∈ zG := zT_mem (k := 461) (by decide +kernel) (by decide +kernel)
theorem zq_462 : (Jvm.Cond.fieldLink "ShareRunsModel" (13 : Nat) "ShareRunsModel" "faults" "[I") ∈ zG := zT_mem (k := 462) (by decide +kernel) (by decide +kernel)
theorem zq_463 : (Jvm.Cond.fieldLink "ShareRunsModel" (16 : Nat) "ShareRunsModel" "values" "[J") ∈ zG := zT_mem (k := 463) (by decide +kernel) (by decide +kernel)
theorem zq_464 : (Jvm.Cond.fieldLink "ShareRunsModel" (20 : Nat) "ShareRunsModel" "settles" "[Z") ∈ zG := zT_mem (k := 464) (by decide +kernel) (by decide +kernel)
theorem zq_465 : (Jvm.Cond.fieldLink "ShareRunsModel" (57 : Nat) "ShareRunsModel" "known" "Z") ∈ zG := zT_mem (k := 465) (by decide +kernel) (by decide +kernel)
theorem zq_466 : (Jvm.Cond.fieldLink "ShareRunsModel" (24 : Nat) "ShareRunsModel" "spent" "[I") ∈ zG := zT_mem (k := 466) (by decide +kernel) (by decide +kernel)
theorem zq_467 : (Jvm.Cond.fieldLink "ShareRunsModel" (27 : Nat) "ShareRunsModel" "doneAt" "[I") ∈ zG := zT_mem (k := 467) (by decide +kernel) (by decide +kernel)
theorem zq_468 : (Jvm.Cond.fieldLink "ShareRunsModel" (30 : Nat) "ShareRunsModel" "doneBy" "[I") ∈ zG := zT_mem (k := 468) (by decide +kernel) (by decide +kernel)
theorem zq_469 : (Jvm.Cond.fieldLink "ShareRunsModel" (33 : Nat) "ShareRunsModel" "holds" "[I") ∈ zG := zT_mem (k := 469) (by decide +kernel) (by decide +kernel)
theorem zq_470 : (Jvm.Cond.fieldLink "ShareRunsModel" (36 : Nat) "ShareRunsModel" "moved" "[I") ∈ zG := zT_mem (k := 470) (by decide +kernel) (by decide +kernel)
theorem zq_471 : (Jvm.Cond.fieldLink "ShareRunsModel" (39 : Nat) "ShareRunsModel" "row" "[I") ∈ zG := zT_mem (k := 471) (by decide +kernel) (by decide +kernel)
theorem zq_472 : (Jvm.Cond.fieldLink "ShareRunsModel" (73 : Nat) "ShareRunsModel" "many" "I") ∈ zG := zT_mem (k := 472) (by decide +kernel) (by decide +kernel)
theorem zq_473 : (Jvm.Cond.fieldLink "ShareRunsModel" (61 : Nat) "ShareRunsModel" "workers" "I") ∈ zG := zT_mem (k := 473) (by decide +kernel) (by decide +kernel)
theorem zq_474 : (Jvm.Cond.fieldLink "ShareRunsModel" (70 : Nat) "ShareRunsModel" "ticks" "I") ∈ zG := zT_mem (k := 474) (by decide +kernel) (by decide +kernel)
theorem zq_508 : (Jvm.Cond.methodLink "ShareRunsLaw" (68 : Nat) ({ cls := "ShareRunsModel", name := "thrown", desc := "()I" } : Jvm.MethodName)) ∈ zG := zT_mem (k := 508) (by decide +kernel) (by decide +kernel)
theorem zq_509 : (Jvm.Cond.instanceMethod ({ cls := "ShareRunsModel", name := "thrown", desc := "()I" } : Jvm.MethodName)) ∈ zG := zT_mem (k := 509) (by decide +kernel) (by decide +kernel)
theorem zq_510 : (Jvm.Cond.selects "ShareRunsModel" ({ cls := "ShareRunsModel", name := "thrown", desc := "()I" } : Jvm.MethodName) ({ cls := "ShareRunsModel", name := "thrown", desc := "()I" } : Jvm.MethodName)) ∈ zG := zT_mem (k := 510) (by decide +kernel) (by decide +kernel)
theorem zq_511 : (Jvm.Cond.code ({ cls := "ShareRunsModel", name := "thrown", desc := "()I" } : Jvm.MethodName) prog_5_method_2_code (1 : Nat) (Option.some Jvm.ClassFile.FieldType.int)) ∈ zG := zT_mem (k := 511) (by decide +kernel) (by decide +kernel)
theorem zq_512 : (Jvm.Cond.methodLink "ShareRunsLaw" (67 : Nat) ({ cls := "ShareRunsModel", name := "value", desc := "(IIJZ)Z" } : Jvm.MethodName)) ∈ zG := zT_mem (k := 512) (by decide +kernel) (by decide +kernel)
theorem zq_513 : (Jvm.Cond.instanceMethod ({ cls := "ShareRunsModel", name := "value", desc := "(IIJZ)Z" } : Jvm.MethodName)) ∈ zG := zT_mem (k := 513) (by decide +kernel) (by decide +kernel)
theorem zq_514 : (Jvm.Cond.selects "ShareRunsModel" ({ cls := "ShareRunsModel", name := "value", desc := "(IIJZ)Z" } : Jvm.MethodName) ({ cls := "ShareRunsModel", name := "value", desc := "(IIJZ)Z" } : Jvm.MethodName)) ∈ zG := zT_mem (k := 514) (by decide +kernel) (by decide +kernel)
theorem zq_515 : (Jvm.Cond.code ({ cls := "ShareRunsModel", name := "value", desc := "(IIJZ)Z" } : Jvm.MethodName) prog_5_method_5_code (7 : Nat) (Option.some Jvm.ClassFile.FieldType.boolean)) ∈ zG := zT_mem (k := 515) (by decide +kernel) (by decide +kernel)
theorem zq_516 : (Jvm.Cond.methodLink "ShareRunsModel" (49 : Nat) ({ cls := "ShareRunsModel", name := "isShare", desc := "(I)Z" } : Jvm.MethodName)) ∈ zG := zT_mem (k := 516) (by decide +kernel) (by decide +kernel)
theorem zq_518 : (Jvm.Cond.instanceMethod ({ cls := "ShareRunsModel", name := "isShare", desc := "(I)Z" } : Jvm.MethodName)) ∈ zG := zT_mem (k := 518) (by decide +kernel) (by decide +kernel)
theorem zq_519 : (Jvm.Cond.code ({ cls := "ShareRunsModel", name := "isShare", desc := "(I)Z" } : Jvm.MethodName) prog_5_method_4_code (2 : Nat) (Option.some Jvm.ClassFile.FieldType.boolean)) ∈ zG := zT_mem (k := 519) (by decide +kernel) (by decide +kernel)
theorem zq_520 : (Jvm.Cond.methodLink "ShareRunsModel" (53 : Nat) ({ cls := "ShareRunsModel", name := "fails", desc := "(ZZ)Z" } : Jvm.MethodName)) ∈ zG := zT_mem (k := 520) (by decide +kernel) (by decide +kernel)
theorem zq_522 : (Jvm.Cond.instanceMethod ({ cls := "ShareRunsModel", name := "fails", desc := "(ZZ)Z" } : Jvm.MethodName)) ∈ zG := zT_mem (k := 522) (by decide +kernel) (by decide +kernel)
theorem zq_523 : (Jvm.Cond.code ({ cls := "ShareRunsModel", name := "fails", desc := "(ZZ)Z" } : Jvm.MethodName) prog_5_method_3_code (3 : Nat) (Option.some Jvm.ClassFile.FieldType.boolean)) ∈ zG := zT_mem (k := 523) (by decide +kernel) (by decide +kernel)
theorem zq_524 : (Jvm.Cond.methodLink "ShareRunsLaw" (75 : Nat) ({ cls := "ShareRunsModel", name := "faults", desc := "(II)Z" } : Jvm.MethodName)) ∈ zG := zT_mem (k := 524) (by decide +kernel) (by decide +kernel)
theorem zq_525 : (Jvm.Cond.instanceMethod ({ cls := "ShareRunsModel", name := "faults", desc := "(II)Z" } : Jvm.MethodName)) ∈ zG := zT_mem (k := 525) (by decide +kernel) (by decide +kernel)
theorem zq_526 : (Jvm.Cond.selects "ShareRunsModel" ({ cls := "ShareRunsModel", name := "faults", desc := "(II)Z" } : Jvm.MethodName) ({ cls := "ShareRunsModel", name := "faults", desc := "(II)Z" } : Jvm.MethodName)) ∈ zG := zT_mem (k := 526) (by decide +kernel) (by decide +kernel)
theorem zq_527 : (Jvm.Cond.code ({ cls := "ShareRunsModel", name := "faults", desc := "(II)Z" } : Jvm.MethodName) prog_5_method_6_code (4 : Nat) (Option.some Jvm.ClassFile.FieldType.boolean)) ∈ zG := zT_mem (k := 527) (by decide +kernel) (by decide +kernel)
theorem zq_528 : (Jvm.Cond.methodLink "ShareRunsLaw" (79 : Nat) ({ cls := "ShareRunsModel", name := "run", desc := "(IJI)I" } : Jvm.MethodName)) ∈ zG := zT_mem (k := 528) (by decide +kernel) (by decide +kernel)
theorem zq_529 : (Jvm.Cond.instanceMethod ({ cls := "ShareRunsModel", name := "run", desc := "(IJI)I" } : Jvm.MethodName)) ∈ zG := zT_mem (k := 529) (by decide +kernel) (by decide +kernel)
theorem zq_530 : (Jvm.Cond.selects "ShareRunsModel" ({ cls := "ShareRunsModel", name := "run", desc := "(IJI)I" } : Jvm.MethodName) ({ cls := "ShareRunsModel", name := "run", desc := "(IJI)I" } : Jvm.MethodName)) ∈ zG := zT_mem (k := 530) (by decide +kernel) (by decide +kernel)
theorem zq_531 : (Jvm.Cond.code ({ cls := "ShareRunsModel", name := "run", desc := "(IJI)I" } : Jvm.MethodName) prog_5_method_14_code (9 : Nat) (Option.some Jvm.ClassFile.FieldType.int)) ∈ zG := zT_mem (k := 531) (by decide +kernel) (by decide +kernel)
theorem zq_532 : (Jvm.Cond.methodLink "ShareRunsModel" (76 : Nat) ({ cls := "ShareRunsModel", name := "waits", desc := "()I" } : Jvm.MethodName)) ∈ zG := zT_mem (k := 532) (by decide +kernel) (by decide +kernel)
theorem zq_534 : (Jvm.Cond.instanceMethod ({ cls := "ShareRunsModel", name := "waits", desc := "()I" } : Jvm.MethodName)) ∈ zG := zT_mem (k := 534) (by decide +kernel) (by decide +kernel)
theorem zq_535 : (Jvm.Cond.code ({ cls := "ShareRunsModel", name := "waits", desc := "()I" } : Jvm.MethodName) prog_5_method_9_code (2 : Nat) (Option.some Jvm.ClassFile.FieldType.int)) ∈ zG := zT_mem (k := 535) (by decide +kernel) (by decide +kernel)
theorem zq_536 : (Jvm.Cond.methodLink "ShareRunsModel" (64 : Nat) ({ cls := "ShareRunsModel", name := "isHeld", desc := "(I)Z" } : Jvm.MethodName)) ∈ zG := zT_mem (k := 536) (by decide +kernel) (by decide +kernel)
theorem zq_538 : (Jvm.Cond.instanceMethod ({ cls := "ShareRunsModel", name := "isHeld", desc := "(I)Z" } : Jvm.MethodName)) ∈ zG := zT_mem (k := 538) (by decide +kernel) (by decide +kernel)
theorem zq_539 : (Jvm.Cond.code ({ cls := "ShareRunsModel", name := "isHeld", desc := "(I)Z" } : Jvm.MethodName) prog_5_method_8_code (4 : Nat) (Option.some Jvm.ClassFile.FieldType.boolean)) ∈ zG := zT_mem (k := 539) (by decide +kernel) (by decide +kernel)
theorem zq_540 : (Jvm.Cond.methodLink "ShareRunsModel" (67 : Nat) ({ cls := "ShareRunsModel", name := "isBehind", desc := "(I)Z" } : Jvm.MethodName)) ∈ zG := zT_mem (k := 540) (by decide +kernel) (by decide +kernel)
theorem zq_542 : (Jvm.Cond.instanceMethod ({ cls := "ShareRunsModel", name := "isBehind", desc := "(I)Z" } : Jvm.MethodName)) ∈ zG := zT_mem (k := 542) (by decide +kernel) (by decide +kernel)
theorem zq_543 : (Jvm.Cond.code ({ cls := "ShareRunsModel", name := "isBehind", desc := "(I)Z" } : Jvm.MethodName) prog_5_method_7_code (4 : Nat) (Option.some Jvm.ClassFile.FieldType.boolean)) ∈ zG := zT_mem (k := 543) (by decide +kernel) (by decide +kernel)
theorem zq_544 : (Jvm.Cond.methodLink "ShareRunsModel" (80 : Nat) ({ cls := "ShareRunsModel", name := "movers", desc := "(Z)I" } : Jvm.MethodName)) ∈ zG := zT_mem (k := 544) (by decide +kernel) (by decide +kernel)
theorem zq_546 : (Jvm.Cond.instanceMethod ({ cls := "ShareRunsModel", name := "movers", desc := "(Z)I" } : Jvm.MethodName)) ∈ zG := zT_mem (k := 546) (by decide +kernel) (by decide +kernel)
theorem zq_547 : (Jvm.Cond.code ({ cls := "ShareRunsModel", name := "movers", desc := "(Z)I" } : Jvm.MethodName) prog_5_method_11_code (4 : Nat) (Option.some Jvm.ClassFile.FieldType.int)) ∈ zG := zT_mem (k := 547) (by decide +kernel) (by decide +kernel)
theorem zq_548 : (Jvm.Cond.constantLong "ShareRunsModel" (84 : Nat) (6364136223846793005 : Int64)) ∈ zG := zT_mem (k := 548) (by decide +kernel) (by decide +kernel)
theorem zq_549 : (Jvm.Cond.constantLong "ShareRunsModel" (86 : Nat) (1442695040888963407 : Int64)) ∈ zG := zT_mem (k := 549) (by decide +kernel) (by decide +kernel)
theorem zq_550 : (Jvm.Cond.methodLink "ShareRunsModel" (88 : Nat) ({ cls := "ShareRunsModel", name := "mover", desc := "(IZ)I" } : Jvm.MethodName)) ∈ zG := zT_mem (k := 550) (by decide +kernel) (by decide +kernel)
theorem zq_552 : (Jvm.Cond.instanceMethod ({ cls := "ShareRunsModel", name := "mover", desc := "(IZ)I" } : Jvm.MethodName)) ∈ zG := zT_mem (k := 552) (by decide +kernel) (by decide +kernel)
theorem zq_553 : (Jvm.Cond.code ({ cls := "ShareRunsModel", name := "mover", desc := "(IZ)I" } : Jvm.MethodName) prog_5_method_10_code (6 : Nat) (Option.some Jvm.ClassFile.FieldType.int)) ∈ zG := zT_mem (k := 553) (by decide +kernel) (by decide +kernel)
theorem zq_554 : (Jvm.Cond.methodLink "ShareRunsModel" (92 : Nat) ({ cls := "ShareRunsModel", name := "tick", desc := "(II)V" } : Jvm.MethodName)) ∈ zG := zT_mem (k := 554) (by decide +kernel) (by decide +kernel)
theorem zq_556 : (Jvm.Cond.instanceMethod ({ cls := "ShareRunsModel", name := "tick", desc := "(II)V" } : Jvm.MethodName)) ∈ zG := zT_mem (k := 556) (by decide +kernel) (by decide +kernel)
theorem zq_557 : (Jvm.Cond.code ({ cls := "ShareRunsModel", name := "tick", desc := "(II)V" } : Jvm.MethodName) prog_5_method_12_code (5 : Nat) (Option.none : Option Jvm.ClassFile.FieldType)) ∈ zG := zT_mem (k := 557) (by decide +kernel) (by decide +kernel)
theorem zq_558 : (Jvm.Cond.methodLink "ShareRunsModel" (96 : Nat) ({ cls := "ShareRunsModel", name := "winner", desc := "()I" } : Jvm.MethodName)) ∈ zG := zT_mem (k := 558) (by decide +kernel) (by decide +kernel)
theorem zq_560 : (Jvm.Cond.instanceMethod ({ cls := "ShareRunsModel", name := "winner", desc := "()I" } : Jvm.MethodName)) ∈ zG := zT_mem (k := 560) (by decide +kernel) (by decide +kernel)
theorem zq_561 : (Jvm.Cond.code ({ cls := "ShareRunsModel", name := "winner", desc := "()I" } : Jvm.MethodName) prog_5_method_13_code (2 : Nat) (Option.some Jvm.ClassFile.FieldType.int)) ∈ zG := zT_mem (k := 561) (by decide +kernel) (by decide +kernel)
theorem zq_562 : (Jvm.Cond.methodLink "ShareRunsLaw" (83 : Nat) ({ cls := "ShareRunsModel", name := "answer", desc := "()J" } : Jvm.MethodName)) ∈ zG := zT_mem (k := 562) (by decide +kernel) (by decide +kernel)
theorem zq_563 : (Jvm.Cond.instanceMethod ({ cls := "ShareRunsModel", name := "answer", desc := "()J" } : Jvm.MethodName)) ∈ zG := zT_mem (k := 563) (by decide +kernel) (by decide +kernel)
theorem zq_564 : (Jvm.Cond.selects "ShareRunsModel" ({ cls := "ShareRunsModel", name := "answer", desc := "()J" } : Jvm.MethodName) ({ cls := "ShareRunsModel", name := "answer", desc := "()J" } : Jvm.MethodName)) ∈ zG := zT_mem (k := 564) (by decide +kernel) (by decide +kernel)
theorem zq_565 : (Jvm.Cond.code ({ cls := "ShareRunsModel", name := "answer", desc := "()J" } : Jvm.MethodName) prog_5_method_16_code (5 : Nat) (Option.some Jvm.ClassFile.FieldType.long)) ∈ zG := zT_mem (k := 565) (by decide +kernel) (by decide +kernel)
theorem zq_566 : (Jvm.Cond.methodLink "ShareRunsLaw" (87 : Nat) ({ cls := "ShareRunsModel", name := "ticks", desc := "(I)I" } : Jvm.MethodName)) ∈ zG := zT_mem (k := 566) (by decide +kernel) (by decide +kernel)
theorem zq_567 : (Jvm.Cond.instanceMethod ({ cls := "ShareRunsModel", name := "ticks", desc := "(I)I" } : Jvm.MethodName)) ∈ zG := zT_mem (k := 567) (by decide +kernel) (by decide +kernel)
theorem zq_568 : (Jvm.Cond.selects "ShareRunsModel" ({ cls := "ShareRunsModel", name := "ticks", desc := "(I)I" } : Jvm.MethodName) ({ cls := "ShareRunsModel", name := "ticks", desc := "(I)I" } : Jvm.MethodName)) ∈ zG := zT_mem (k := 568) (by decide +kernel) (by decide +kernel)
theorem zq_569 : (Jvm.Cond.code ({ cls := "ShareRunsModel", name := "ticks", desc := "(I)I" } : Jvm.MethodName) prog_5_method_17_code (4 : Nat) (Option.some Jvm.ClassFile.FieldType.int)) ∈ zG := zT_mem (k := 569) (by decide +kernel) (by decide +kernel)
theorem zq_570 : (Jvm.Cond.methodLink "ShareRunsModel" (99 : Nat) ({ cls := "ShareRunsModel", name := "counts", desc := "(I)Z" } : Jvm.MethodName)) ∈ zG := zT_mem (k := 570) (by decide +kernel) (by decide +kernel)
theorem zq_572 : (Jvm.Cond.instanceMethod ({ cls := "ShareRunsModel", name := "counts", desc := "(I)Z" } : Jvm.MethodName)) ∈ zG := zT_mem (k := 572) (by decide +kernel) (by decide +kernel)
theorem zq_573 : (Jvm.Cond.code ({ cls := "ShareRunsModel", name := "counts", desc := "(I)Z" } : Jvm.MethodName) prog_5_method_15_code (3 : Nat) (Option.some Jvm.ClassFile.FieldType.boolean)) ∈ zG := zT_mem (k := 573) (by decide +kernel) (by decide +kernel)
theorem zq_574 : (Jvm.Cond.methodLink "ShareRunsLaw" (90 : Nat) ({ cls := "ShareRunsModel", name := "worked", desc := "(I)I" } : Jvm.MethodName)) ∈ zG := zT_mem (k := 574) (by decide +kernel) (by decide +kernel)
theorem zq_575 : (Jvm.Cond.instanceMethod ({ cls := "ShareRunsModel", name := "worked", desc := "(I)I" } : Jvm.MethodName)) ∈ zG := zT_mem (k := 575) (by decide +kernel) (by decide +kernel)
theorem zq_576 : (Jvm.Cond.selects "ShareRunsModel" ({ cls := "ShareRunsModel", name := "worked", desc := "(I)I" } : Jvm.MethodName) ({ cls := "ShareRunsModel", name := "worked", desc := "(I)I" } : Jvm.MethodName)) ∈ zG := zT_mem (k := 576) (by decide +kernel) (by decide +kernel)
theorem zq_577 : (Jvm.Cond.code ({ cls := "ShareRunsModel", name := "worked", desc := "(I)I" } : Jvm.MethodName) prog_5_method_18_code (2 : Nat) (Option.some Jvm.ClassFile.FieldType.int)) ∈ zG := zT_mem (k := 577) (by decide +kernel) (by decide +kernel)
theorem zq_578 : (Jvm.Cond.methodLink "ShareRunsLaw" (93 : Nat) ({ cls := "ShareRunsModel", name := "done", desc := "(I)I" } : Jvm.MethodName)) ∈ zG := zT_mem (k := 578) (by decide +kernel) (by decide +kernel)
theorem zq_579 : (Jvm.Cond.instanceMethod ({ cls := "ShareRunsModel", name := "done", desc := "(I)I" } : Jvm.MethodName)) ∈ zG := zT_mem (k := 579) (by decide +kernel) (by decide +kernel)
theorem zq_580 : (Jvm.Cond.selects "ShareRunsModel" ({ cls := "ShareRunsModel", name := "done", desc := "(I)I" } : Jvm.MethodName) ({ cls := "ShareRunsModel", name := "done", desc := "(I)I" } : Jvm.MethodName)) ∈ zG := zT_mem (k := 580) (by decide +kernel) (by decide +kernel)
theorem zq_581 : (Jvm.Cond.code ({ cls := "ShareRunsModel", name := "done", desc := "(I)I" } : Jvm.MethodName) prog_5_method_19_code (2 : Nat) (Option.some Jvm.ClassFile.FieldType.int)) ∈ zG := zT_mem (k := 581) (by decide +kernel) (by decide +kernel)
theorem zq_582 : (Jvm.Cond.methodLink "ShareRunsLaw" (96 : Nat) ({ cls := "ShareRunsModel", name := "by", desc := "(I)I" } : Jvm.MethodName)) ∈ zG := zT_mem (k := 582) (by decide +kernel) (by decide +kernel)
theorem zq_583 : (Jvm.Cond.instanceMethod ({ cls := "ShareRunsModel", name := "by", desc := "(I)I" } : Jvm.MethodName)) ∈ zG := zT_mem (k := 583) (by decide +kernel) (by decide +kernel)
theorem zq_584 : (Jvm.Cond.selects "ShareRunsModel" ({ cls := "ShareRunsModel", name := "by", desc := "(I)I" } : Jvm.MethodName) ({ cls := "ShareRunsModel", name := "by", desc := "(I)I" } : Jvm.MethodName)) ∈ zG := zT_mem (k := 584) (by decide +kernel) (by decide +kernel)
theorem zq_585 : (Jvm.Cond.code ({ cls := "ShareRunsModel", name := "by", desc := "(I)I" } : Jvm.MethodName) prog_5_method_20_code (2 : Nat) (Option.some Jvm.ClassFile.FieldType.int)) ∈ zG := zT_mem (k := 585) (by decide +kernel) (by decide +kernel)
theorem zq_586 : (Jvm.Cond.methodLink "ShareRunsLaw" (99 : Nat) ({ cls := "ShareRunsModel", name := "failed", desc := "(I)I" } : Jvm.MethodName)) ∈ zG := zT_mem (k := 586) (by decide +kernel) (by decide +kernel)
theorem zq_587 : (Jvm.Cond.instanceMethod ({ cls := "ShareRunsModel", name := "failed", desc := "(I)I" } : Jvm.MethodName)) ∈ zG := zT_mem (k := 587) (by decide +kernel) (by decide +kernel)
theorem zq_588 : (Jvm.Cond.selects "ShareRunsModel" ({ cls := "ShareRunsModel", name := "failed", desc := "(I)I" } : Jvm.MethodName) ({ cls := "ShareRunsModel", name := "failed", desc := "(I)I" } : Jvm.MethodName)) ∈ zG := zT_mem (k := 588) (by decide +kernel) (by decide +kernel)
theorem zq_589 : (Jvm.Cond.code ({ cls := "ShareRunsModel", name := "failed", desc := "(I)I" } : Jvm.MethodName) prog_5_method_21_code (3 : Nat) (Option.some Jvm.ClassFile.FieldType.int)) ∈ zG := zT_mem (k := 589) (by decide +kernel) (by decide +kernel)
theorem zq_590 : (Jvm.Cond.methodLink "ShareRunsLaw" (102 : Nat) ({ cls := "ShareRunsModel", name := "at", desc := "(I)I" } : Jvm.MethodName)) ∈ zG := zT_mem (k := 590) (by decide +kernel) (by decide +kernel)
theorem zq_591 : (Jvm.Cond.instanceMethod ({ cls := "ShareRunsModel", name := "at", desc := "(I)I" } : Jvm.MethodName)) ∈ zG := zT_mem (k := 591) (by decide +kernel) (by decide +kernel)
theorem zq_592 : (Jvm.Cond.selects "ShareRunsModel" ({ cls := "ShareRunsModel", name := "at", desc := "(I)I" } : Jvm.MethodName) ({ cls := "ShareRunsModel", name := "at", desc := "(I)I" } : Jvm.MethodName)) ∈ zG := zT_mem (k := 592) (by decide +kernel) (by decide +kernel)
theorem zq_593 : (Jvm.Cond.code ({ cls := "ShareRunsModel", name := "at", desc := "(I)I" } : Jvm.MethodName) prog_5_method_22_code (2 : Nat) (Option.some Jvm.ClassFile.FieldType.int)) ∈ zG := zT_mem (k := 593) (by decide +kernel) (by decide +kernel)
theorem zq_594 : (Jvm.Cond.methodLink "ShareRunsLaw" (106 : Nat) ({ cls := "ShareRunsModel", name := "count", desc := "()I" } : Jvm.MethodName)) ∈ zG := zT_mem (k := 594) (by decide +kernel) (by decide +kernel)
theorem zq_595 : (Jvm.Cond.instanceMethod ({ cls := "ShareRunsModel", name := "count", desc := "()I" } : Jvm.MethodName)) ∈ zG := zT_mem (k := 595) (by decide +kernel) (by decide +kernel)
theorem zq_596 : (Jvm.Cond.selects "ShareRunsModel" ({ cls := "ShareRunsModel", name := "count", desc := "()I" } : Jvm.MethodName) ({ cls := "ShareRunsModel", name := "count", desc := "()I" } : Jvm.MethodName)) ∈ zG := zT_mem (k := 596) (by decide +kernel) (by decide +kernel)
theorem zq_597 : (Jvm.Cond.code ({ cls := "ShareRunsModel", name := "count", desc := "()I" } : Jvm.MethodName) prog_5_method_23_code (1 : Nat) (Option.some Jvm.ClassFile.FieldType.int)) ∈ zG := zT_mem (k := 597) (by decide +kernel) (by decide +kernel)
theorem zq_598 : (Jvm.Cond.constantLong "ShareRunsLaw" (62 : Nat) (4294967295 : Int64)) ∈ zG := zT_mem (k := 598) (by decide +kernel) (by decide +kernel)
theorem zp_0 : (Jvm.Cond.selects "ShareRuns" ({ cls := "ShareRuns", name := "needShare", desc := "(I)V" } : Jvm.MethodName) ({ cls := "ShareRuns", name := "needShare", desc := "(I)V" } : Jvm.MethodName)) ∈ zG := zP_mem (k := 0) (by decide +kernel) (by decide +kernel)
theorem zp_1 : (Jvm.Cond.selects "java/lang/Throwable" ({ cls := "java/lang/Throwable", name := "fillInStackTrace", desc := "(I)Ljava/lang/Throwable;" } : Jvm.MethodName) ({ cls := "java/lang/Throwable", name := "fillInStackTrace", desc := "(I)Ljava/lang/Throwable;" } : Jvm.MethodName)) ∈ zG := zP_mem (k := 1) (by decide +kernel) (by decide +kernel)
theorem zp_2 : (Jvm.Cond.selects "ShareRuns" ({ cls := "ShareRuns", name := "forgetIf", desc := "(Z)V" } : Jvm.MethodName) ({ cls := "ShareRuns", name := "forgetIf", desc := "(Z)V" } : Jvm.MethodName)) ∈ zG := zP_mem (k := 2) (by decide +kernel) (by decide +kernel)
theorem zp_3 : (Jvm.Cond.selects "ShareRuns$Race" ({ cls := "ShareRuns$Race", name := "movers", desc := "()I" } : Jvm.MethodName) ({ cls := "ShareRuns$Race", name := "movers", desc := "()I" } : Jvm.MethodName)) ∈ zG := zP_mem (k := 3) (by decide +kernel) (by decide +kernel)
theorem zp_4 : (Jvm.Cond.selects "ShareRuns$Race" ({ cls := "ShareRuns$Race", name := "someShareWaits", desc := "()Z" } : Jvm.MethodName) ({ cls := "ShareRuns$Race", name := "someShareWaits", desc := "()Z" } : Jvm.MethodName)) ∈ zG := zP_mem (k := 4) (by decide +kernel) (by decide +kernel)
theorem zp_5 : (Jvm.Cond.selects "ShareRuns$Race" ({ cls := "ShareRuns$Race", name := "oneTick", desc := "()V" } : Jvm.MethodName) ({ cls := "ShareRuns$Race", name := "oneTick", desc := "()V" } : Jvm.MethodName)) ∈ zG := zP_mem (k := 5) (by decide +kernel) (by decide +kernel)
theorem zp_6 : (Jvm.Cond.selects "ShareRuns$Race" ({ cls := "ShareRuns$Race", name := "moverBehind", desc := "(I)I" } : Jvm.MethodName) ({ cls := "ShareRuns$Race", name := "moverBehind", desc := "(I)I" } : Jvm.MethodName)) ∈ zG := zP_mem (k := 6) (by decide +kernel) (by decide +kernel)
theorem zp_7 : (Jvm.Cond.selects "ShareRuns$Race" ({ cls := "ShareRuns$Race", name := "takeNext", desc := "(I)V" } : Jvm.MethodName) ({ cls := "ShareRuns$Race", name := "takeNext", desc := "(I)V" } : Jvm.MethodName)) ∈ zG := zP_mem (k := 7) (by decide +kernel) (by decide +kernel)
theorem zp_8 : (Jvm.Cond.selects "ShareRuns$Race" ({ cls := "ShareRuns$Race", name := "spendTick", desc := "(I)Z" } : Jvm.MethodName) ({ cls := "ShareRuns$Race", name := "spendTick", desc := "(I)Z" } : Jvm.MethodName)) ∈ zG := zP_mem (k := 8) (by decide +kernel) (by decide +kernel)
theorem zp_9 : (Jvm.Cond.selects "ShareRuns$Race" ({ cls := "ShareRuns$Race", name := "finish", desc := "(II)V" } : Jvm.MethodName) ({ cls := "ShareRuns$Race", name := "finish", desc := "(II)V" } : Jvm.MethodName)) ∈ zG := zP_mem (k := 9) (by decide +kernel) (by decide +kernel)
theorem zp_10 : (Jvm.Cond.selects "ShareRuns$Race" ({ cls := "ShareRuns$Race", name := "letGo", desc := "(I)V" } : Jvm.MethodName) ({ cls := "ShareRuns$Race", name := "letGo", desc := "(I)V" } : Jvm.MethodName)) ∈ zG := zP_mem (k := 10) (by decide +kernel) (by decide +kernel)
theorem zp_11 : (Jvm.Cond.selects "ShareRuns$Race" ({ cls := "ShareRuns$Race", name := "dropBehind", desc := "(I)V" } : Jvm.MethodName) ({ cls := "ShareRuns$Race", name := "dropBehind", desc := "(I)V" } : Jvm.MethodName)) ∈ zG := zP_mem (k := 11) (by decide +kernel) (by decide +kernel)
theorem zp_12 : (Jvm.Cond.selects "ShareRuns" ({ cls := "ShareRuns", name := "needKnown", desc := "()V" } : Jvm.MethodName) ({ cls := "ShareRuns", name := "needKnown", desc := "()V" } : Jvm.MethodName)) ∈ zG := zP_mem (k := 12) (by decide +kernel) (by decide +kernel)
theorem zp_13 : (Jvm.Cond.selects "ShareRuns$Plan" ({ cls := "ShareRuns$Plan", name := "sumOfWorths", desc := "()J" } : Jvm.MethodName) ({ cls := "ShareRuns$Plan", name := "sumOfWorths", desc := "()J" } : Jvm.MethodName)) ∈ zG := zP_mem (k := 13) (by decide +kernel) (by decide +kernel)
theorem zp_14 : (Jvm.Cond.selects "ShareRunsModel" ({ cls := "ShareRunsModel", name := "isShare", desc := "(I)Z" } : Jvm.MethodName) ({ cls := "ShareRunsModel", name := "isShare", desc := "(I)Z" } : Jvm.MethodName)) ∈ zG := zP_mem (k := 14) (by decide +kernel) (by decide +kernel)
theorem zp_15 : (Jvm.Cond.selects "ShareRunsModel" ({ cls := "ShareRunsModel", name := "fails", desc := "(ZZ)Z" } : Jvm.MethodName) ({ cls := "ShareRunsModel", name := "fails", desc := "(ZZ)Z" } : Jvm.MethodName)) ∈ zG := zP_mem (k := 15) (by decide +kernel) (by decide +kernel)
theorem zp_16 : (Jvm.Cond.selects "ShareRunsModel" ({ cls := "ShareRunsModel", name := "waits", desc := "()I" } : Jvm.MethodName) ({ cls := "ShareRunsModel", name := "waits", desc := "()I" } : Jvm.MethodName)) ∈ zG := zP_mem (k := 16) (by decide +kernel) (by decide +kernel)
theorem zp_17 : (Jvm.Cond.selects "ShareRunsModel" ({ cls := "ShareRunsModel", name := "isHeld", desc := "(I)Z" } : Jvm.MethodName) ({ cls := "ShareRunsModel", name := "isHeld", desc := "(I)Z" } : Jvm.MethodName)) ∈ zG := zP_mem (k := 17) (by decide +kernel) (by decide +kernel)
theorem zp_18 : (Jvm.Cond.selects "ShareRunsModel" ({ cls := "ShareRunsModel", name := "isBehind", desc := "(I)Z" } : Jvm.MethodName) ({ cls := "ShareRunsModel", name := "isBehind", desc := "(I)Z" } : Jvm.MethodName)) ∈ zG := zP_mem (k := 18) (by decide +kernel) (by decide +kernel)
theorem zp_19 : (Jvm.Cond.selects "ShareRunsModel" ({ cls := "ShareRunsModel", name := "movers", desc := "(Z)I" } : Jvm.MethodName) ({ cls := "ShareRunsModel", name := "movers", desc := "(Z)I" } : Jvm.MethodName)) ∈ zG := zP_mem (k := 19) (by decide +kernel) (by decide +kernel)
theorem zp_20 : (Jvm.Cond.selects "ShareRunsModel" ({ cls := "ShareRunsModel", name := "mover", desc := "(IZ)I" } : Jvm.MethodName) ({ cls := "ShareRunsModel", name := "mover", desc := "(IZ)I" } : Jvm.MethodName)) ∈ zG := zP_mem (k := 20) (by decide +kernel) (by decide +kernel)
theorem zp_21 : (Jvm.Cond.selects "ShareRunsModel" ({ cls := "ShareRunsModel", name := "tick", desc := "(II)V" } : Jvm.MethodName) ({ cls := "ShareRunsModel", name := "tick", desc := "(II)V" } : Jvm.MethodName)) ∈ zG := zP_mem (k := 21) (by decide +kernel) (by decide +kernel)
theorem zp_22 : (Jvm.Cond.selects "ShareRunsModel" ({ cls := "ShareRunsModel", name := "winner", desc := "()I" } : Jvm.MethodName) ({ cls := "ShareRunsModel", name := "winner", desc := "()I" } : Jvm.MethodName)) ∈ zG := zP_mem (k := 22) (by decide +kernel) (by decide +kernel)
theorem zp_23 : (Jvm.Cond.selects "ShareRunsModel" ({ cls := "ShareRunsModel", name := "counts", desc := "(I)Z" } : Jvm.MethodName) ({ cls := "ShareRunsModel", name := "counts", desc := "(I)Z" } : Jvm.MethodName)) ∈ zG := zP_mem (k := 23) (by decide +kernel) (by decide +kernel)
end
section
theorem zd_P_init_0 : decode zc_P_init 0 = .ok (.aload_n 0, 1) := by decide +kernel
theorem zd_P_init_1 : decode zc_P_init 1 = .ok (.invokespecial 3, 3) := by decide +kernel
theorem zd_P_init_4 : decode zc_P_init 4 = .ok (.aload_n 0, 1) := by decide +kernel
theorem zd_P_init_5 : decode zc_P_init 5 = .ok (.iconst 1, 1) := by decide +kernel
theorem zd_P_init_6 : decode zc_P_init 6 = .ok (.bipush 16, 2) := by decide +kernel
theorem zd_P_init_8 : decode zc_P_init 8 = .ok (.iload_n 1, 1) := by decide +kernel
theorem zd_P_init_9 : decode zc_P_init 9 = .ok (.invokestatic 9, 3) := by decide +kernel
theorem zd_P_init_12 : decode zc_P_init 12 = .ok (.invokestatic 15, 3) := by decide +kernel
theorem zd_P_init_15 : decode zc_P_init 15 = .ok (.putfield 18, 3) := by decide +kernel
theorem zd_P_init_18 : decode zc_P_init 18 = .ok (.aload_n 0, 1) := by decide +kernel
theorem zd_P_init_19 : decode zc_P_init 19 = .ok (.bipush 16, 2) := by decide +kernel
theorem zd_P_init_21 : decode zc_P_init 21 = .ok (.newarray .int, 2) := by decide +kernel
theorem zd_P_init_23 : decode zc_P_init 23 = .ok (.putfield 24, 3) := by decide +kernel
theorem zd_P_init_26 : decode zc_P_init 26 = .ok (.aload_n 0, 1) := by decide +kernel
theorem zd_P_init_27 : decode zc_P_init 27 = .ok (.bipush 16, 2) := by decide +kernel
theorem zd_P_init_29 : decode zc_P_init 29 = .ok (.newarray .long, 2) := by decide +kernel
theorem zd_P_init_31 : decode zc_P_init 31 = .ok (.putfield 28, 3) := by decide +kernel
theorem zd_P_init_34 : decode zc_P_init 34 = .ok (.aload_n 0, 1) := by decide +kernel
theorem zd_P_init_35 : decode zc_P_init 35 = .ok (.bipush 16, 2) := by decide +kernel
theorem zd_P_init_37 : decode zc_P_init 37 = .ok (.newarray .boolean, 2) := by decide +kernel
theorem zd_P_init_39 : decode zc_P_init 39 = .ok (.putfield 32, 3) := by decide +kernel
theorem zd_P_init_42 : decode zc_P_init 42 = .ok (.aload_n 0, 1) := by decide +kernel
theorem zd_P_init_43 : decode zc_P_init 43 = .ok (.bipush 16, 2) := by decide +kernel
theorem zd_P_init_45 : decode zc_P_init 45 = .ok (.newarray .int, 2) := by decide +kernel
theorem zd_P_init_47 : decode zc_P_init 47 = .ok (.putfield 36, 3) := by decide +kernel
theorem zd_P_init_50 : decode zc_P_init 50 = .ok (.aload_n 0, 1) := by decide +kernel
theorem zd_P_init_51 : decode zc_P_init 51 = .ok (.getfield 24, 3) := by decide +kernel
theorem zd_P_init_54 : decode zc_P_init 54 = .ok (.iconst 1, 1) := by decide +kernel
theorem zd_P_init_55 : decode zc_P_init 55 = .ok (.invokestatic 39, 3) := by decide +kernel
theorem zd_P_init_58 : decode zc_P_init 58 = .ok (.return_, 1) := by decide +kernel
theorem zd_P_size_0 : decode zc_P_size 0 = .ok (.aload_n 0, 1) := by decide +kernel
theorem zd_P_size_1 : decode zc_P_size 1 = .ok (.getfield 18, 3) := by decide +kernel
theorem zd_P_size_4 : decode zc_P_size 4 = .ok (.ireturn, 1) := by decide +kernel
theorem zd_P_has_0 : decode zc_P_has 0 = .ok (.iload_n 1, 1) := by decide +kernel
theorem zd_P_has_1 : decode zc_P_has 1 = .ok (.ifCond .lt 15, 3) := by decide +kernel
theorem zd_P_has_4 : decode zc_P_has 4 = .ok (.iload_n 1, 1) := by decide +kernel
theorem zd_P_has_5 : decode zc_P_has 5 = .ok (.aload_n 0, 1) := by decide +kernel
theorem zd_P_has_6 : decode zc_P_has 6 = .ok (.getfield 18, 3) := by decide +kernel
theorem zd_P_has_9 : decode zc_P_has 9 = .ok (.if_icmp .ge 7, 3) := by decide +kernel
theorem zd_P_has_12 : decode zc_P_has 12 = .ok (.iconst 1, 1) := by decide +kernel
theorem zd_P_has_13 : decode zc_P_has 13 = .ok (.goto 4, 3) := by decide +kernel
theorem zd_P_has_16 : decode zc_P_has 16 = .ok (.iconst 0, 1) := by decide +kernel
theorem zd_P_has_17 : decode zc_P_has 17 = .ok (.ireturn, 1) := by decide +kernel
theorem zd_P_change_0 : decode zc_P_change 0 = .ok (.aload_n 0, 1) := by decide +kernel
theorem zd_P_change_1 : decode zc_P_change 1 = .ok (.iload_n 1, 1) := by decide +kernel
theorem zd_P_change_2 : decode zc_P_change 2 = .ok (.invokevirtual 45, 3) := by decide +kernel
theorem zd_P_change_5 : decode zc_P_change 5 = .ok (.ifCond .ne 5, 3) := by decide +kernel
theorem zd_P_change_8 : decode zc_P_change 8 = .ok (.iconst 0, 1) := by decide +kernel
theorem zd_P_change_9 : decode zc_P_change 9 = .ok (.ireturn, 1) := by decide +kernel
theorem zd_P_change_10 : decode zc_P_change 10 = .ok (.aload_n 0, 1) := by decide +kernel
theorem zd_P_change_11 : decode zc_P_change 11 = .ok (.getfield 24, 3) := by decide +kernel
theorem zd_P_change_14 : decode zc_P_change 14 = .ok (.iload_n 1, 1) := by decide +kernel
theorem zd_P_change_15 : decode zc_P_change 15 = .ok (.iaload, 1) := by decide +kernel
theorem zd_P_change_16 : decode zc_P_change 16 = .ok (.iload_n 2, 1) := by decide +kernel
theorem zd_P_change_17 : decode zc_P_change 17 = .ok (.if_icmp .ne 25, 3) := by decide +kernel
theorem zd_P_change_20 : decode zc_P_change 20 = .ok (.aload_n 0, 1) := by decide +kernel
theorem zd_P_change_21 : decode zc_P_change 21 = .ok (.getfield 28, 3) := by decide +kernel
theorem zd_P_change_24 : decode zc_P_change 24 = .ok (.iload_n 1, 1) := by decide +kernel
theorem zd_P_change_25 : decode zc_P_change 25 = .ok (.laload, 1) := by decide +kernel
theorem zd_P_change_26 : decode zc_P_change 26 = .ok (.lload_n 3, 1) := by decide +kernel
theorem zd_P_change_27 : decode zc_P_change 27 = .ok (.lcmp, 1) := by decide +kernel
theorem zd_P_change_28 : decode zc_P_change 28 = .ok (.ifCond .ne 14, 3) := by decide +kernel
theorem zd_P_change_31 : decode zc_P_change 31 = .ok (.aload_n 0, 1) := by decide +kernel
theorem zd_P_change_32 : decode zc_P_change 32 = .ok (.getfield 32, 3) := by decide +kernel
theorem zd_P_change_35 : decode zc_P_change 35 = .ok (.iload_n 1, 1) := by decide +kernel
theorem zd_P_change_36 : decode zc_P_change 36 = .ok (.baload, 1) := by decide +kernel
theorem zd_P_change_37 : decode zc_P_change 37 = .ok (.iload 5, 2) := by decide +kernel
theorem zd_P_change_39 : decode zc_P_change 39 = .ok (.if_icmp .eq 7, 3) := by decide +kernel
theorem zd_P_change_42 : decode zc_P_change 42 = .ok (.iconst 1, 1) := by decide +kernel
theorem zd_P_change_43 : decode zc_P_change 43 = .ok (.goto 4, 3) := by decide +kernel
theorem zd_P_change_46 : decode zc_P_change 46 = .ok (.iconst 0, 1) := by decide +kernel
theorem zd_P_change_47 : decode zc_P_change 47 = .ok (.istore 6, 2) := by decide +kernel
theorem zd_P_change_49 : decode zc_P_change 49 = .ok (.aload_n 0, 1) := by decide +kernel
theorem zd_P_change_50 : decode zc_P_change 50 = .ok (.getfield 24, 3) := by decide +kernel
theorem zd_P_change_53 : decode zc_P_change 53 = .ok (.iload_n 1, 1) := by decide +kernel
theorem zd_P_change_54 : decode zc_P_change 54 = .ok (.iload_n 2, 1) := by decide +kernel
theorem zd_P_change_55 : decode zc_P_change 55 = .ok (.iastore, 1) := by decide +kernel
theorem zd_P_change_56 : decode zc_P_change 56 = .ok (.aload_n 0, 1) := by decide +kernel
theorem zd_P_change_57 : decode zc_P_change 57 = .ok (.getfield 28, 3) := by decide +kernel
theorem zd_P_change_60 : decode zc_P_change 60 = .ok (.iload_n 1, 1) := by decide +kernel
theorem zd_P_change_61 : decode zc_P_change 61 = .ok (.lload_n 3, 1) := by decide +kernel
theorem zd_P_change_62 : decode zc_P_change 62 = .ok (.lastore, 1) := by decide +kernel
theorem zd_P_change_63 : decode zc_P_change 63 = .ok (.aload_n 0, 1) := by decide +kernel
theorem zd_P_change_64 : decode zc_P_change 64 = .ok (.getfield 32, 3) := by decide +kernel
theorem zd_P_change_67 : decode zc_P_change 67 = .ok (.iload_n 1, 1) := by decide +kernel
theorem zd_P_change_68 : decode zc_P_change 68 = .ok (.iload 5, 2) := by decide +kernel
theorem zd_P_change_70 : decode zc_P_change 70 = .ok (.bastore, 1) := by decide +kernel
theorem zd_P_change_71 : decode zc_P_change 71 = .ok (.iload 6, 2) := by decide +kernel
theorem zd_P_change_73 : decode zc_P_change 73 = .ok (.ireturn, 1) := by decide +kernel
theorem zd_P_changeFaults_0 : decode zc_P_changeFaults 0 = .ok (.aload_n 0, 1) := by decide +kernel
theorem zd_P_changeFaults_1 : decode zc_P_changeFaults 1 = .ok (.iload_n 1, 1) := by decide +kernel
theorem zd_P_changeFaults_2 : decode zc_P_changeFaults 2 = .ok (.invokevirtual 45, 3) := by decide +kernel
theorem zd_P_changeFaults_5 : decode zc_P_changeFaults 5 = .ok (.ifCond .ne 5, 3) := by decide +kernel
theorem zd_P_changeFaults_8 : decode zc_P_changeFaults 8 = .ok (.iconst 0, 1) := by decide +kernel
theorem zd_P_changeFaults_9 : decode zc_P_changeFaults 9 = .ok (.ireturn, 1) := by decide +kernel
theorem zd_P_changeFaults_10 : decode zc_P_changeFaults 10 = .ok (.aload_n 0, 1) := by decide +kernel
theorem zd_P_changeFaults_11 : decode zc_P_changeFaults 11 = .ok (.getfield 36, 3) := by decide +kernel
theorem zd_P_changeFaults_14 : decode zc_P_changeFaults 14 = .ok (.iload_n 1, 1) := by decide +kernel
theorem zd_P_changeFaults_15 : decode zc_P_changeFaults 15 = .ok (.iaload, 1) := by decide +kernel
theorem zd_P_changeFaults_16 : decode zc_P_changeFaults 16 = .ok (.iload_n 2, 1) := by decide +kernel
theorem zd_P_changeFaults_17 : decode zc_P_changeFaults 17 = .ok (.if_icmp .eq 7, 3) := by decide +kernel
theorem zd_P_changeFaults_20 : decode zc_P_changeFaults 20 = .ok (.iconst 1, 1) := by decide +kernel
theorem zd_P_changeFaults_21 : decode zc_P_changeFaults 21 = .ok (.goto 4, 3) := by decide +kernel
theorem zd_P_changeFaults_24 : decode zc_P_changeFaults 24 = .ok (.iconst 0, 1) := by decide +kernel
theorem zd_P_changeFaults_25 : decode zc_P_changeFaults 25 = .ok (.istore_n 3, 1) := by decide +kernel
theorem zd_P_changeFaults_26 : decode zc_P_changeFaults 26 = .ok (.aload_n 0, 1) := by decide +kernel
theorem zd_P_changeFaults_27 : decode zc_P_changeFaults 27 = .ok (.getfield 36, 3) := by decide +kernel
theorem zd_P_changeFaults_30 : decode zc_P_changeFaults 30 = .ok (.iload_n 1, 1) := by decide +kernel
theorem zd_P_changeFaults_31 : decode zc_P_changeFaults 31 = .ok (.iload_n 2, 1) := by decide +kernel
theorem zd_P_changeFaults_32 : decode zc_P_changeFaults 32 = .ok (.iastore, 1) := by decide +kernel
theorem zd_P_changeFaults_33 : decode zc_P_changeFaults 33 = .ok (.iload_n 3, 1) := by decide +kernel
theorem zd_P_changeFaults_34 : decode zc_P_changeFaults 34 = .ok (.ireturn, 1) := by decide +kernel
theorem zd_P_workOf_0 : decode zc_P_workOf 0 = .ok (.aload_n 0, 1) := by decide +kernel
theorem zd_P_workOf_1 : decode zc_P_workOf 1 = .ok (.iload_n 1, 1) := by decide +kernel
theorem zd_P_workOf_2 : decode zc_P_workOf 2 = .ok (.invokevirtual 45, 3) := by decide +kernel
theorem zd_P_workOf_5 : decode zc_P_workOf 5 = .ok (.ifCond .eq 12, 3) := by decide +kernel
theorem zd_P_workOf_8 : decode zc_P_workOf 8 = .ok (.aload_n 0, 1) := by decide +kernel
theorem zd_P_workOf_9 : decode zc_P_workOf 9 = .ok (.getfield 24, 3) := by decide +kernel
theorem zd_P_workOf_12 : decode zc_P_workOf 12 = .ok (.iload_n 1, 1) := by decide +kernel
theorem zd_P_workOf_13 : decode zc_P_workOf 13 = .ok (.iaload, 1) := by decide +kernel
theorem zd_P_workOf_14 : decode zc_P_workOf 14 = .ok (.goto 4, 3) := by decide +kernel
theorem zd_P_workOf_17 : decode zc_P_workOf 17 = .ok (.iconst 1, 1) := by decide +kernel
theorem zd_P_workOf_18 : decode zc_P_workOf 18 = .ok (.ireturn, 1) := by decide +kernel
theorem zd_P_faultsOf_0 : decode zc_P_faultsOf 0 = .ok (.aload_n 0, 1) := by decide +kernel
theorem zd_P_faultsOf_1 : decode zc_P_faultsOf 1 = .ok (.iload_n 1, 1) := by decide +kernel
theorem zd_P_faultsOf_2 : decode zc_P_faultsOf 2 = .ok (.invokevirtual 45, 3) := by decide +kernel
theorem zd_P_faultsOf_5 : decode zc_P_faultsOf 5 = .ok (.ifCond .eq 12, 3) := by decide +kernel
theorem zd_P_faultsOf_8 : decode zc_P_faultsOf 8 = .ok (.aload_n 0, 1) := by decide +kernel
theorem zd_P_faultsOf_9 : decode zc_P_faultsOf 9 = .ok (.getfield 36, 3) := by decide +kernel
theorem zd_P_faultsOf_12 : decode zc_P_faultsOf 12 = .ok (.iload_n 1, 1) := by decide +kernel
theorem zd_P_faultsOf_13 : decode zc_P_faultsOf 13 = .ok (.iaload, 1) := by decide +kernel
theorem zd_P_faultsOf_14 : decode zc_P_faultsOf 14 = .ok (.goto 4, 3) := by decide +kernel
theorem zd_P_faultsOf_17 : decode zc_P_faultsOf 17 = .ok (.iconst 0, 1) := by decide +kernel
theorem zd_P_faultsOf_18 : decode zc_P_faultsOf 18 = .ok (.ireturn, 1) := by decide +kernel
theorem zd_P_isSettling_0 : decode zc_P_isSettling 0 = .ok (.aload_n 0, 1) := by decide +kernel
theorem zd_P_isSettling_1 : decode zc_P_isSettling 1 = .ok (.iload_n 1, 1) := by decide +kernel
theorem zd_P_isSettling_2 : decode zc_P_isSettling 2 = .ok (.invokevirtual 45, 3) := by decide +kernel
theorem zd_P_isSettling_5 : decode zc_P_isSettling 5 = .ok (.ifCond .eq 16, 3) := by decide +kernel
theorem zd_P_isSettling_8 : decode zc_P_isSettling 8 = .ok (.aload_n 0, 1) := by decide +kernel
theorem zd_P_isSettling_9 : decode zc_P_isSettling 9 = .ok (.getfield 32, 3) := by decide +kernel
theorem zd_P_isSettling_12 : decode zc_P_isSettling 12 = .ok (.iload_n 1, 1) := by decide +kernel
theorem zd_P_isSettling_13 : decode zc_P_isSettling 13 = .ok (.baload, 1) := by decide +kernel
theorem zd_P_isSettling_14 : decode zc_P_isSettling 14 = .ok (.ifCond .eq 7, 3) := by decide +kernel
theorem zd_P_isSettling_17 : decode zc_P_isSettling 17 = .ok (.iconst 1, 1) := by decide +kernel
theorem zd_P_isSettling_18 : decode zc_P_isSettling 18 = .ok (.goto 4, 3) := by decide +kernel
theorem zd_P_isSettling_21 : decode zc_P_isSettling 21 = .ok (.iconst 0, 1) := by decide +kernel
theorem zd_P_isSettling_22 : decode zc_P_isSettling 22 = .ok (.ireturn, 1) := by decide +kernel
theorem zd_P_winner_0 : decode zc_P_winner 0 = .ok (.iconst 0, 1) := by decide +kernel
theorem zd_P_winner_1 : decode zc_P_winner 1 = .ok (.istore_n 1, 1) := by decide +kernel
theorem zd_P_winner_2 : decode zc_P_winner 2 = .ok (.iload_n 1, 1) := by decide +kernel
theorem zd_P_winner_3 : decode zc_P_winner 3 = .ok (.aload_n 0, 1) := by decide +kernel
theorem zd_P_winner_4 : decode zc_P_winner 4 = .ok (.getfield 18, 3) := by decide +kernel
theorem zd_P_winner_7 : decode zc_P_winner 7 = .ok (.if_icmp .ge 20, 3) := by decide +kernel
theorem zd_P_winner_10 : decode zc_P_winner 10 = .ok (.aload_n 0, 1) := by decide +kernel
theorem zd_P_winner_11 : decode zc_P_winner 11 = .ok (.getfield 32, 3) := by decide +kernel
theorem zd_P_winner_14 : decode zc_P_winner 14 = .ok (.iload_n 1, 1) := by decide +kernel
theorem zd_P_winner_15 : decode zc_P_winner 15 = .ok (.baload, 1) := by decide +kernel
theorem zd_P_winner_16 : decode zc_P_winner 16 = .ok (.ifCond .eq 5, 3) := by decide +kernel
theorem zd_P_winner_19 : decode zc_P_winner 19 = .ok (.iload_n 1, 1) := by decide +kernel
theorem zd_P_winner_20 : decode zc_P_winner 20 = .ok (.ireturn, 1) := by decide +kernel
theorem zd_P_winner_21 : decode zc_P_winner 21 = .ok (.iinc 1 1, 3) := by decide +kernel
theorem zd_P_winner_24 : decode zc_P_winner 24 = .ok (.goto (-22), 3) := by decide +kernel
theorem zd_P_winner_27 : decode zc_P_winner 27 = .ok (.iconst (-1), 1) := by decide +kernel
theorem zd_P_winner_28 : decode zc_P_winner 28 = .ok (.ireturn, 1) := by decide +kernel
theorem zd_P_isBehindWinner_0 : decode zc_P_isBehindWinner 0 = .ok (.aload_n 0, 1) := by decide +kernel
theorem zd_P_isBehindWinner_1 : decode zc_P_isBehindWinner 1 = .ok (.invokevirtual 49, 3) := by decide +kernel
theorem zd_P_isBehindWinner_4 : decode zc_P_isBehindWinner 4 = .ok (.istore_n 2, 1) := by decide +kernel
theorem zd_P_isBehindWinner_5 : decode zc_P_isBehindWinner 5 = .ok (.iload_n 2, 1) := by decide +kernel
theorem zd_P_isBehindWinner_6 : decode zc_P_isBehindWinner 6 = .ok (.iconst (-1), 1) := by decide +kernel
theorem zd_P_isBehindWinner_7 : decode zc_P_isBehindWinner 7 = .ok (.if_icmp .eq 12, 3) := by decide +kernel
theorem zd_P_isBehindWinner_10 : decode zc_P_isBehindWinner 10 = .ok (.iload_n 1, 1) := by decide +kernel
theorem zd_P_isBehindWinner_11 : decode zc_P_isBehindWinner 11 = .ok (.iload_n 2, 1) := by decide +kernel
theorem zd_P_isBehindWinner_12 : decode zc_P_isBehindWinner 12 = .ok (.if_icmp .le 7, 3) := by decide +kernel
theorem zd_P_isBehindWinner_15 : decode zc_P_isBehindWinner 15 = .ok (.iconst 1, 1) := by decide +kernel
theorem zd_P_isBehindWinner_16 : decode zc_P_isBehindWinner 16 = .ok (.goto 4, 3) := by decide +kernel
theorem zd_P_isBehindWinner_19 : decode zc_P_isBehindWinner 19 = .ok (.iconst 0, 1) := by decide +kernel
theorem zd_P_isBehindWinner_20 : decode zc_P_isBehindWinner 20 = .ok (.ireturn, 1) := by decide +kernel
theorem zd_P_outcome_0 : decode zc_P_outcome 0 = .ok (.aload_n 0, 1) := by decide +kernel
theorem zd_P_outcome_1 : decode zc_P_outcome 1 = .ok (.invokevirtual 49, 3) := by decide +kernel
theorem zd_P_outcome_4 : decode zc_P_outcome 4 = .ok (.istore_n 1, 1) := by decide +kernel
theorem zd_P_outcome_5 : decode zc_P_outcome 5 = .ok (.aload_n 0, 1) := by decide +kernel
theorem zd_P_outcome_6 : decode zc_P_outcome 6 = .ok (.iload_n 1, 1) := by decide +kernel
theorem zd_P_outcome_7 : decode zc_P_outcome 7 = .ok (.invokevirtual 45, 3) := by decide +kernel
theorem zd_P_outcome_10 : decode zc_P_outcome 10 = .ok (.ifCond .eq 12, 3) := by decide +kernel
theorem zd_P_outcome_13 : decode zc_P_outcome 13 = .ok (.aload_n 0, 1) := by decide +kernel
theorem zd_P_outcome_14 : decode zc_P_outcome 14 = .ok (.getfield 28, 3) := by decide +kernel
theorem zd_P_outcome_17 : decode zc_P_outcome 17 = .ok (.iload_n 1, 1) := by decide +kernel
theorem zd_P_outcome_18 : decode zc_P_outcome 18 = .ok (.laload, 1) := by decide +kernel
theorem zd_P_outcome_19 : decode zc_P_outcome 19 = .ok (.goto 7, 3) := by decide +kernel
theorem zd_P_outcome_22 : decode zc_P_outcome 22 = .ok (.aload_n 0, 1) := by decide +kernel
theorem zd_P_outcome_23 : decode zc_P_outcome 23 = .ok (.invokevirtual 53, 3) := by decide +kernel
theorem zd_P_outcome_26 : decode zc_P_outcome 26 = .ok (.lreturn, 1) := by decide +kernel
theorem zd_P_sumOfWorths_0 : decode zc_P_sumOfWorths 0 = .ok (.lconst 0, 1) := by decide +kernel
theorem zd_P_sumOfWorths_1 : decode zc_P_sumOfWorths 1 = .ok (.lstore_n 1, 1) := by decide +kernel
theorem zd_P_sumOfWorths_2 : decode zc_P_sumOfWorths 2 = .ok (.iconst 0, 1) := by decide +kernel
theorem zd_P_sumOfWorths_3 : decode zc_P_sumOfWorths 3 = .ok (.istore_n 3, 1) := by decide +kernel
theorem zd_P_sumOfWorths_4 : decode zc_P_sumOfWorths 4 = .ok (.iload_n 3, 1) := by decide +kernel
theorem zd_P_sumOfWorths_5 : decode zc_P_sumOfWorths 5 = .ok (.aload_n 0, 1) := by decide +kernel
theorem zd_P_sumOfWorths_6 : decode zc_P_sumOfWorths 6 = .ok (.getfield 18, 3) := by decide +kernel
theorem zd_P_sumOfWorths_9 : decode zc_P_sumOfWorths 9 = .ok (.if_icmp .ge 18, 3) := by decide +kernel
theorem zd_P_sumOfWorths_12 : decode zc_P_sumOfWorths 12 = .ok (.lload_n 1, 1) := by decide +kernel
theorem zd_P_sumOfWorths_13 : decode zc_P_sumOfWorths 13 = .ok (.aload_n 0, 1) := by decide +kernel
theorem zd_P_sumOfWorths_14 : decode zc_P_sumOfWorths 14 = .ok (.getfield 28, 3) := by decide +kernel
theorem zd_P_sumOfWorths_17 : decode zc_P_sumOfWorths 17 = .ok (.iload_n 3, 1) := by decide +kernel
theorem zd_P_sumOfWorths_18 : decode zc_P_sumOfWorths 18 = .ok (.laload, 1) := by decide +kernel
theorem zd_P_sumOfWorths_19 : decode zc_P_sumOfWorths 19 = .ok (.ladd, 1) := by decide +kernel
theorem zd_P_sumOfWorths_20 : decode zc_P_sumOfWorths 20 = .ok (.lstore_n 1, 1) := by decide +kernel
theorem zd_P_sumOfWorths_21 : decode zc_P_sumOfWorths 21 = .ok (.iinc 3 1, 3) := by decide +kernel
theorem zd_P_sumOfWorths_24 : decode zc_P_sumOfWorths 24 = .ok (.goto (-20), 3) := by decide +kernel
theorem zd_P_sumOfWorths_27 : decode zc_P_sumOfWorths 27 = .ok (.lload_n 1, 1) := by decide +kernel
theorem zd_P_sumOfWorths_28 : decode zc_P_sumOfWorths 28 = .ok (.lreturn, 1) := by decide +kernel
end
section
theorem zd_Q_init_0 : decode zc_Q_init 0 = .ok (.aload_n 0, 1) := by decide +kernel
theorem zd_Q_init_1 : decode zc_Q_init 1 = .ok (.invokespecial 3, 3) := by decide +kernel
theorem zd_Q_init_4 : decode zc_Q_init 4 = .ok (.aload_n 0, 1) := by decide +kernel
theorem zd_Q_init_5 : decode zc_Q_init 5 = .ok (.aload_n 1, 1) := by decide +kernel
theorem zd_Q_init_6 : decode zc_Q_init 6 = .ok (.putfield 9, 3) := by decide +kernel
theorem zd_Q_init_9 : decode zc_Q_init 9 = .ok (.aload_n 0, 1) := by decide +kernel
theorem zd_Q_init_10 : decode zc_Q_init 10 = .ok (.bipush 16, 2) := by decide +kernel
theorem zd_Q_init_12 : decode zc_Q_init 12 = .ok (.newarray .int, 2) := by decide +kernel
theorem zd_Q_init_14 : decode zc_Q_init 14 = .ok (.putfield 15, 3) := by decide +kernel
theorem zd_Q_init_17 : decode zc_Q_init 17 = .ok (.aload_n 0, 1) := by decide +kernel
theorem zd_Q_init_18 : decode zc_Q_init 18 = .ok (.bipush 16, 2) := by decide +kernel
theorem zd_Q_init_20 : decode zc_Q_init 20 = .ok (.newarray .int, 2) := by decide +kernel
theorem zd_Q_init_22 : decode zc_Q_init 22 = .ok (.putfield 19, 3) := by decide +kernel
theorem zd_Q_init_25 : decode zc_Q_init 25 = .ok (.aload_n 0, 1) := by decide +kernel
theorem zd_Q_init_26 : decode zc_Q_init 26 = .ok (.bipush 16, 2) := by decide +kernel
theorem zd_Q_init_28 : decode zc_Q_init 28 = .ok (.newarray .int, 2) := by decide +kernel
theorem zd_Q_init_30 : decode zc_Q_init 30 = .ok (.putfield 22, 3) := by decide +kernel
theorem zd_Q_init_33 : decode zc_Q_init 33 = .ok (.aload_n 0, 1) := by decide +kernel
theorem zd_Q_init_34 : decode zc_Q_init 34 = .ok (.bipush 16, 2) := by decide +kernel
theorem zd_Q_init_36 : decode zc_Q_init 36 = .ok (.newarray .int, 2) := by decide +kernel
theorem zd_Q_init_38 : decode zc_Q_init 38 = .ok (.putfield 25, 3) := by decide +kernel
theorem zd_Q_init_41 : decode zc_Q_init 41 = .ok (.aload_n 0, 1) := by decide +kernel
theorem zd_Q_init_42 : decode zc_Q_init 42 = .ok (.bipush 16, 2) := by decide +kernel
theorem zd_Q_init_44 : decode zc_Q_init 44 = .ok (.newarray .int, 2) := by decide +kernel
theorem zd_Q_init_46 : decode zc_Q_init 46 = .ok (.putfield 28, 3) := by decide +kernel
theorem zd_Q_init_49 : decode zc_Q_init 49 = .ok (.aload_n 0, 1) := by decide +kernel
theorem zd_Q_init_50 : decode zc_Q_init 50 = .ok (.bipush 16, 2) := by decide +kernel
theorem zd_Q_init_52 : decode zc_Q_init 52 = .ok (.newarray .int, 2) := by decide +kernel
theorem zd_Q_init_54 : decode zc_Q_init 54 = .ok (.putfield 31, 3) := by decide +kernel
theorem zd_Q_init_57 : decode zc_Q_init 57 = .ok (.aload_n 0, 1) := by decide +kernel
theorem zd_Q_init_58 : decode zc_Q_init 58 = .ok (.bipush 16, 2) := by decide +kernel
theorem zd_Q_init_60 : decode zc_Q_init 60 = .ok (.newarray .int, 2) := by decide +kernel
theorem zd_Q_init_62 : decode zc_Q_init 62 = .ok (.putfield 34, 3) := by decide +kernel
theorem zd_Q_init_65 : decode zc_Q_init 65 = .ok (.aload_n 0, 1) := by decide +kernel
theorem zd_Q_init_66 : decode zc_Q_init 66 = .ok (.bipush 16, 2) := by decide +kernel
theorem zd_Q_init_68 : decode zc_Q_init 68 = .ok (.newarray .int, 2) := by decide +kernel
theorem zd_Q_init_70 : decode zc_Q_init 70 = .ok (.putfield 37, 3) := by decide +kernel
theorem zd_Q_init_73 : decode zc_Q_init 73 = .ok (.return_, 1) := by decide +kernel
theorem zd_Q_begin_0 : decode zc_Q_begin 0 = .ok (.aload_n 0, 1) := by decide +kernel
theorem zd_Q_begin_1 : decode zc_Q_begin 1 = .ok (.getfield 15, 3) := by decide +kernel
theorem zd_Q_begin_4 : decode zc_Q_begin 4 = .ok (.iconst (-1), 1) := by decide +kernel
theorem zd_Q_begin_5 : decode zc_Q_begin 5 = .ok (.invokestatic 40, 3) := by decide +kernel
theorem zd_Q_begin_8 : decode zc_Q_begin 8 = .ok (.aload_n 0, 1) := by decide +kernel
theorem zd_Q_begin_9 : decode zc_Q_begin 9 = .ok (.getfield 19, 3) := by decide +kernel
theorem zd_Q_begin_12 : decode zc_Q_begin 12 = .ok (.iconst 0, 1) := by decide +kernel
theorem zd_Q_begin_13 : decode zc_Q_begin 13 = .ok (.invokestatic 40, 3) := by decide +kernel
theorem zd_Q_begin_16 : decode zc_Q_begin 16 = .ok (.aload_n 0, 1) := by decide +kernel
theorem zd_Q_begin_17 : decode zc_Q_begin 17 = .ok (.getfield 22, 3) := by decide +kernel
theorem zd_Q_begin_20 : decode zc_Q_begin 20 = .ok (.iconst 0, 1) := by decide +kernel
theorem zd_Q_begin_21 : decode zc_Q_begin 21 = .ok (.invokestatic 40, 3) := by decide +kernel
theorem zd_Q_begin_24 : decode zc_Q_begin 24 = .ok (.aload_n 0, 1) := by decide +kernel
theorem zd_Q_begin_25 : decode zc_Q_begin 25 = .ok (.getfield 25, 3) := by decide +kernel
theorem zd_Q_begin_28 : decode zc_Q_begin 28 = .ok (.iconst 0, 1) := by decide +kernel
theorem zd_Q_begin_29 : decode zc_Q_begin 29 = .ok (.invokestatic 40, 3) := by decide +kernel
theorem zd_Q_begin_32 : decode zc_Q_begin 32 = .ok (.aload_n 0, 1) := by decide +kernel
theorem zd_Q_begin_33 : decode zc_Q_begin 33 = .ok (.getfield 28, 3) := by decide +kernel
theorem zd_Q_begin_36 : decode zc_Q_begin 36 = .ok (.iconst 0, 1) := by decide +kernel
theorem zd_Q_begin_37 : decode zc_Q_begin 37 = .ok (.invokestatic 40, 3) := by decide +kernel
theorem zd_Q_begin_40 : decode zc_Q_begin 40 = .ok (.aload_n 0, 1) := by decide +kernel
theorem zd_Q_begin_41 : decode zc_Q_begin 41 = .ok (.getfield 31, 3) := by decide +kernel
theorem zd_Q_begin_44 : decode zc_Q_begin 44 = .ok (.iconst (-1), 1) := by decide +kernel
theorem zd_Q_begin_45 : decode zc_Q_begin 45 = .ok (.invokestatic 40, 3) := by decide +kernel
theorem zd_Q_begin_48 : decode zc_Q_begin 48 = .ok (.aload_n 0, 1) := by decide +kernel
theorem zd_Q_begin_49 : decode zc_Q_begin 49 = .ok (.getfield 34, 3) := by decide +kernel
theorem zd_Q_begin_52 : decode zc_Q_begin 52 = .ok (.iconst 0, 1) := by decide +kernel
theorem zd_Q_begin_53 : decode zc_Q_begin 53 = .ok (.invokestatic 40, 3) := by decide +kernel
theorem zd_Q_begin_56 : decode zc_Q_begin 56 = .ok (.aload_n 0, 1) := by decide +kernel
theorem zd_Q_begin_57 : decode zc_Q_begin 57 = .ok (.iconst 1, 1) := by decide +kernel
theorem zd_Q_begin_58 : decode zc_Q_begin 58 = .ok (.bipush 16, 2) := by decide +kernel
theorem zd_Q_begin_60 : decode zc_Q_begin 60 = .ok (.iload_n 1, 1) := by decide +kernel
theorem zd_Q_begin_61 : decode zc_Q_begin 61 = .ok (.invokestatic 46, 3) := by decide +kernel
theorem zd_Q_begin_64 : decode zc_Q_begin 64 = .ok (.invokestatic 52, 3) := by decide +kernel
theorem zd_Q_begin_67 : decode zc_Q_begin 67 = .ok (.putfield 55, 3) := by decide +kernel
theorem zd_Q_begin_70 : decode zc_Q_begin 70 = .ok (.aload_n 0, 1) := by decide +kernel
theorem zd_Q_begin_71 : decode zc_Q_begin 71 = .ok (.iconst 0, 1) := by decide +kernel
theorem zd_Q_begin_72 : decode zc_Q_begin 72 = .ok (.putfield 59, 3) := by decide +kernel
theorem zd_Q_begin_75 : decode zc_Q_begin 75 = .ok (.aload_n 0, 1) := by decide +kernel
theorem zd_Q_begin_76 : decode zc_Q_begin 76 = .ok (.iconst 0, 1) := by decide +kernel
theorem zd_Q_begin_77 : decode zc_Q_begin 77 = .ok (.putfield 62, 3) := by decide +kernel
theorem zd_Q_begin_80 : decode zc_Q_begin 80 = .ok (.aload_n 0, 1) := by decide +kernel
theorem zd_Q_begin_81 : decode zc_Q_begin 81 = .ok (.aload_n 0, 1) := by decide +kernel
theorem zd_Q_begin_82 : decode zc_Q_begin 82 = .ok (.getfield 9, 3) := by decide +kernel
theorem zd_Q_begin_85 : decode zc_Q_begin 85 = .ok (.invokevirtual 65, 3) := by decide +kernel
theorem zd_Q_begin_88 : decode zc_Q_begin 88 = .ok (.putfield 71, 3) := by decide +kernel
theorem zd_Q_begin_91 : decode zc_Q_begin 91 = .ok (.aload_n 0, 1) := by decide +kernel
theorem zd_Q_begin_92 : decode zc_Q_begin 92 = .ok (.iconst 0, 1) := by decide +kernel
theorem zd_Q_begin_93 : decode zc_Q_begin 93 = .ok (.putfield 74, 3) := by decide +kernel
theorem zd_Q_begin_96 : decode zc_Q_begin 96 = .ok (.aload_n 0, 1) := by decide +kernel
theorem zd_Q_begin_97 : decode zc_Q_begin 97 = .ok (.iconst 0, 1) := by decide +kernel
theorem zd_Q_begin_98 : decode zc_Q_begin 98 = .ok (.putfield 77, 3) := by decide +kernel
theorem zd_Q_begin_101 : decode zc_Q_begin 101 = .ok (.aload_n 0, 1) := by decide +kernel
theorem zd_Q_begin_102 : decode zc_Q_begin 102 = .ok (.lload_n 2, 1) := by decide +kernel
theorem zd_Q_begin_103 : decode zc_Q_begin 103 = .ok (.putfield 80, 3) := by decide +kernel
theorem zd_Q_begin_106 : decode zc_Q_begin 106 = .ok (.return_, 1) := by decide +kernel
theorem zd_Q_endsWithin_0 : decode zc_Q_endsWithin 0 = .ok (.iconst 0, 1) := by decide +kernel
theorem zd_Q_endsWithin_1 : decode zc_Q_endsWithin 1 = .ok (.istore_n 2, 1) := by decide +kernel
theorem zd_Q_endsWithin_2 : decode zc_Q_endsWithin 2 = .ok (.iload_n 2, 1) := by decide +kernel
theorem zd_Q_endsWithin_3 : decode zc_Q_endsWithin 3 = .ok (.iload_n 1, 1) := by decide +kernel
theorem zd_Q_endsWithin_4 : decode zc_Q_endsWithin 4 = .ok (.if_icmp .ge 20, 3) := by decide +kernel
theorem zd_Q_endsWithin_7 : decode zc_Q_endsWithin 7 = .ok (.aload_n 0, 1) := by decide +kernel
theorem zd_Q_endsWithin_8 : decode zc_Q_endsWithin 8 = .ok (.invokevirtual 84, 3) := by decide +kernel
theorem zd_Q_endsWithin_11 : decode zc_Q_endsWithin 11 = .ok (.ifCond .le 13, 3) := by decide +kernel
theorem zd_Q_endsWithin_14 : decode zc_Q_endsWithin 14 = .ok (.aload_n 0, 1) := by decide +kernel
theorem zd_Q_endsWithin_15 : decode zc_Q_endsWithin 15 = .ok (.invokevirtual 87, 3) := by decide +kernel
theorem zd_Q_endsWithin_18 : decode zc_Q_endsWithin 18 = .ok (.iinc 2 1, 3) := by decide +kernel
theorem zd_Q_endsWithin_21 : decode zc_Q_endsWithin 21 = .ok (.goto (-19), 3) := by decide +kernel
theorem zd_Q_endsWithin_24 : decode zc_Q_endsWithin 24 = .ok (.aload_n 0, 1) := by decide +kernel
theorem zd_Q_endsWithin_25 : decode zc_Q_endsWithin 25 = .ok (.invokevirtual 84, 3) := by decide +kernel
theorem zd_Q_endsWithin_28 : decode zc_Q_endsWithin 28 = .ok (.ifCond .ne 7, 3) := by decide +kernel
theorem zd_Q_endsWithin_31 : decode zc_Q_endsWithin 31 = .ok (.iconst 1, 1) := by decide +kernel
theorem zd_Q_endsWithin_32 : decode zc_Q_endsWithin 32 = .ok (.goto 4, 3) := by decide +kernel
theorem zd_Q_endsWithin_35 : decode zc_Q_endsWithin 35 = .ok (.iconst 0, 1) := by decide +kernel
theorem zd_Q_endsWithin_36 : decode zc_Q_endsWithin 36 = .ok (.ireturn, 1) := by decide +kernel
theorem zd_Q_someShareWaits_0 : decode zc_Q_someShareWaits 0 = .ok (.aload_n 0, 1) := by decide +kernel
theorem zd_Q_someShareWaits_1 : decode zc_Q_someShareWaits 1 = .ok (.getfield 62, 3) := by decide +kernel
theorem zd_Q_someShareWaits_4 : decode zc_Q_someShareWaits 4 = .ok (.aload_n 0, 1) := by decide +kernel
theorem zd_Q_someShareWaits_5 : decode zc_Q_someShareWaits 5 = .ok (.getfield 71, 3) := by decide +kernel
theorem zd_Q_someShareWaits_8 : decode zc_Q_someShareWaits 8 = .ok (.if_icmp .ge 7, 3) := by decide +kernel
theorem zd_Q_someShareWaits_11 : decode zc_Q_someShareWaits 11 = .ok (.iconst 1, 1) := by decide +kernel
theorem zd_Q_someShareWaits_12 : decode zc_Q_someShareWaits 12 = .ok (.goto 4, 3) := by decide +kernel
theorem zd_Q_someShareWaits_15 : decode zc_Q_someShareWaits 15 = .ok (.iconst 0, 1) := by decide +kernel
theorem zd_Q_someShareWaits_16 : decode zc_Q_someShareWaits 16 = .ok (.ireturn, 1) := by decide +kernel
theorem zd_Q_movers_0 : decode zc_Q_movers 0 = .ok (.aload_n 0, 1) := by decide +kernel
theorem zd_Q_movers_1 : decode zc_Q_movers 1 = .ok (.invokevirtual 90, 3) := by decide +kernel
theorem zd_Q_movers_4 : decode zc_Q_movers 4 = .ok (.ifCond .eq 10, 3) := by decide +kernel
theorem zd_Q_movers_7 : decode zc_Q_movers 7 = .ok (.aload_n 0, 1) := by decide +kernel
theorem zd_Q_movers_8 : decode zc_Q_movers 8 = .ok (.getfield 55, 3) := by decide +kernel
theorem zd_Q_movers_11 : decode zc_Q_movers 11 = .ok (.goto 7, 3) := by decide +kernel
theorem zd_Q_movers_14 : decode zc_Q_movers 14 = .ok (.aload_n 0, 1) := by decide +kernel
theorem zd_Q_movers_15 : decode zc_Q_movers 15 = .ok (.getfield 59, 3) := by decide +kernel
theorem zd_Q_movers_18 : decode zc_Q_movers 18 = .ok (.ireturn, 1) := by decide +kernel
theorem zd_Q_oneTick_0 : decode zc_Q_oneTick 0 = .ok (.aload_n 0, 1) := by decide +kernel
theorem zd_Q_oneTick_1 : decode zc_Q_oneTick 1 = .ok (.invokevirtual 84, 3) := by decide +kernel
theorem zd_Q_oneTick_4 : decode zc_Q_oneTick 4 = .ok (.istore_n 1, 1) := by decide +kernel
theorem zd_Q_oneTick_5 : decode zc_Q_oneTick 5 = .ok (.iload_n 1, 1) := by decide +kernel
theorem zd_Q_oneTick_6 : decode zc_Q_oneTick 6 = .ok (.iconst 1, 1) := by decide +kernel
theorem zd_Q_oneTick_7 : decode zc_Q_oneTick 7 = .ok (.if_icmp .ge 4, 3) := by decide +kernel
theorem zd_Q_oneTick_10 : decode zc_Q_oneTick 10 = .ok (.return_, 1) := by decide +kernel
theorem zd_Q_oneTick_11 : decode zc_Q_oneTick 11 = .ok (.aload_n 0, 1) := by decide +kernel
theorem zd_Q_oneTick_12 : decode zc_Q_oneTick 12 = .ok (.aload_n 0, 1) := by decide +kernel
theorem zd_Q_oneTick_13 : decode zc_Q_oneTick 13 = .ok (.getfield 80, 3) := by decide +kernel
theorem zd_Q_oneTick_16 : decode zc_Q_oneTick 16 = .ok (.ldc2_w 94, 3) := by decide +kernel
theorem zd_Q_oneTick_19 : decode zc_Q_oneTick 19 = .ok (.lmul, 1) := by decide +kernel
theorem zd_Q_oneTick_20 : decode zc_Q_oneTick 20 = .ok (.ldc2_w 96, 3) := by decide +kernel
theorem zd_Q_oneTick_23 : decode zc_Q_oneTick 23 = .ok (.ladd, 1) := by decide +kernel
theorem zd_Q_oneTick_24 : decode zc_Q_oneTick 24 = .ok (.putfield 80, 3) := by decide +kernel
theorem zd_Q_oneTick_27 : decode zc_Q_oneTick 27 = .ok (.aload_n 0, 1) := by decide +kernel
theorem zd_Q_oneTick_28 : decode zc_Q_oneTick 28 = .ok (.getfield 80, 3) := by decide +kernel
theorem zd_Q_oneTick_31 : decode zc_Q_oneTick 31 = .ok (.bipush 33, 2) := by decide +kernel
theorem zd_Q_oneTick_33 : decode zc_Q_oneTick 33 = .ok (.lushr, 1) := by decide +kernel
theorem zd_Q_oneTick_34 : decode zc_Q_oneTick 34 = .ok (.l2i, 1) := by decide +kernel
theorem zd_Q_oneTick_35 : decode zc_Q_oneTick 35 = .ok (.istore_n 2, 1) := by decide +kernel
theorem zd_Q_oneTick_36 : decode zc_Q_oneTick 36 = .ok (.aload_n 0, 1) := by decide +kernel
theorem zd_Q_oneTick_37 : decode zc_Q_oneTick 37 = .ok (.iload_n 2, 1) := by decide +kernel
theorem zd_Q_oneTick_38 : decode zc_Q_oneTick 38 = .ok (.iload_n 1, 1) := by decide +kernel
theorem zd_Q_oneTick_39 : decode zc_Q_oneTick 39 = .ok (.irem, 1) := by decide +kernel
theorem zd_Q_oneTick_40 : decode zc_Q_oneTick 40 = .ok (.invokevirtual 98, 3) := by decide +kernel
theorem zd_Q_oneTick_43 : decode zc_Q_oneTick 43 = .ok (.istore_n 3, 1) := by decide +kernel
theorem zd_Q_oneTick_44 : decode zc_Q_oneTick 44 = .ok (.aload_n 0, 1) := by decide +kernel
theorem zd_Q_oneTick_45 : decode zc_Q_oneTick 45 = .ok (.iload_n 3, 1) := by decide +kernel
theorem zd_Q_oneTick_46 : decode zc_Q_oneTick 46 = .ok (.invokevirtual 102, 3) := by decide +kernel
theorem zd_Q_oneTick_49 : decode zc_Q_oneTick 49 = .ok (.ifCond .ne 4, 3) := by decide +kernel
theorem zd_Q_oneTick_52 : decode zc_Q_oneTick 52 = .ok (.return_, 1) := by decide +kernel
theorem zd_Q_oneTick_53 : decode zc_Q_oneTick 53 = .ok (.aload_n 0, 1) := by decide +kernel
theorem zd_Q_oneTick_54 : decode zc_Q_oneTick 54 = .ok (.dup, 1) := by decide +kernel
theorem zd_Q_oneTick_55 : decode zc_Q_oneTick 55 = .ok (.getfield 77, 3) := by decide +kernel
theorem zd_Q_oneTick_58 : decode zc_Q_oneTick 58 = .ok (.iconst 1, 1) := by decide +kernel
theorem zd_Q_oneTick_59 : decode zc_Q_oneTick 59 = .ok (.iadd, 1) := by decide +kernel
theorem zd_Q_oneTick_60 : decode zc_Q_oneTick 60 = .ok (.putfield 77, 3) := by decide +kernel
theorem zd_Q_oneTick_63 : decode zc_Q_oneTick 63 = .ok (.aload_n 0, 1) := by decide +kernel
theorem zd_Q_oneTick_64 : decode zc_Q_oneTick 64 = .ok (.getfield 19, 3) := by decide +kernel
theorem zd_Q_oneTick_67 : decode zc_Q_oneTick 67 = .ok (.iload_n 3, 1) := by decide +kernel
theorem zd_Q_oneTick_68 : decode zc_Q_oneTick 68 = .ok (.dup2, 1) := by decide +kernel
theorem zd_Q_oneTick_69 : decode zc_Q_oneTick 69 = .ok (.iaload, 1) := by decide +kernel
theorem zd_Q_oneTick_70 : decode zc_Q_oneTick 70 = .ok (.iconst 1, 1) := by decide +kernel
theorem zd_Q_oneTick_71 : decode zc_Q_oneTick 71 = .ok (.iadd, 1) := by decide +kernel
theorem zd_Q_oneTick_72 : decode zc_Q_oneTick 72 = .ok (.iastore, 1) := by decide +kernel
theorem zd_Q_oneTick_73 : decode zc_Q_oneTick 73 = .ok (.aload_n 0, 1) := by decide +kernel
theorem zd_Q_oneTick_74 : decode zc_Q_oneTick 74 = .ok (.getfield 15, 3) := by decide +kernel
theorem zd_Q_oneTick_77 : decode zc_Q_oneTick 77 = .ok (.iload_n 3, 1) := by decide +kernel
theorem zd_Q_oneTick_78 : decode zc_Q_oneTick 78 = .ok (.iaload, 1) := by decide +kernel
theorem zd_Q_oneTick_79 : decode zc_Q_oneTick 79 = .ok (.iconst (-1), 1) := by decide +kernel
theorem zd_Q_oneTick_80 : decode zc_Q_oneTick 80 = .ok (.if_icmp .ne 8, 3) := by decide +kernel
theorem zd_Q_oneTick_83 : decode zc_Q_oneTick 83 = .ok (.aload_n 0, 1) := by decide +kernel
theorem zd_Q_oneTick_84 : decode zc_Q_oneTick 84 = .ok (.iload_n 3, 1) := by decide +kernel
theorem zd_Q_oneTick_85 : decode zc_Q_oneTick 85 = .ok (.invokevirtual 106, 3) := by decide +kernel
theorem zd_Q_oneTick_88 : decode zc_Q_oneTick 88 = .ok (.aload_n 0, 1) := by decide +kernel
theorem zd_Q_oneTick_89 : decode zc_Q_oneTick 89 = .ok (.getfield 15, 3) := by decide +kernel
theorem zd_Q_oneTick_92 : decode zc_Q_oneTick 92 = .ok (.iload_n 3, 1) := by decide +kernel
theorem zd_Q_oneTick_93 : decode zc_Q_oneTick 93 = .ok (.iaload, 1) := by decide +kernel
theorem zd_Q_oneTick_94 : decode zc_Q_oneTick 94 = .ok (.istore 4, 2) := by decide +kernel
theorem zd_Q_oneTick_96 : decode zc_Q_oneTick 96 = .ok (.aload_n 0, 1) := by decide +kernel
theorem zd_Q_oneTick_97 : decode zc_Q_oneTick 97 = .ok (.iload 4, 2) := by decide +kernel
theorem zd_Q_oneTick_99 : decode zc_Q_oneTick 99 = .ok (.invokevirtual 110, 3) := by decide +kernel
theorem zd_Q_oneTick_102 : decode zc_Q_oneTick 102 = .ok (.istore 5, 2) := by decide +kernel
theorem zd_Q_oneTick_104 : decode zc_Q_oneTick 104 = .ok (.iload 5, 2) := by decide +kernel
theorem zd_Q_oneTick_106 : decode zc_Q_oneTick 106 = .ok (.ifCond .eq 10, 3) := by decide +kernel
theorem zd_Q_oneTick_109 : decode zc_Q_oneTick 109 = .ok (.aload_n 0, 1) := by decide +kernel
theorem zd_Q_oneTick_110 : decode zc_Q_oneTick 110 = .ok (.iload 4, 2) := by decide +kernel
theorem zd_Q_oneTick_112 : decode zc_Q_oneTick 112 = .ok (.iload_n 3, 1) := by decide +kernel
theorem zd_Q_oneTick_113 : decode zc_Q_oneTick 113 = .ok (.invokevirtual 113, 3) := by decide +kernel
theorem zd_Q_oneTick_116 : decode zc_Q_oneTick 116 = .ok (.return_, 1) := by decide +kernel
theorem zd_Q_moverBehind_0 : decode zc_Q_moverBehind 0 = .ok (.aload_n 0, 1) := by decide +kernel
theorem zd_Q_moverBehind_1 : decode zc_Q_moverBehind 1 = .ok (.invokevirtual 90, 3) := by decide +kernel
theorem zd_Q_moverBehind_4 : decode zc_Q_moverBehind 4 = .ok (.ifCond .eq 5, 3) := by decide +kernel
theorem zd_Q_moverBehind_7 : decode zc_Q_moverBehind 7 = .ok (.iload_n 1, 1) := by decide +kernel
theorem zd_Q_moverBehind_8 : decode zc_Q_moverBehind 8 = .ok (.ireturn, 1) := by decide +kernel
theorem zd_Q_moverBehind_9 : decode zc_Q_moverBehind 9 = .ok (.iload_n 1, 1) := by decide +kernel
theorem zd_Q_moverBehind_10 : decode zc_Q_moverBehind 10 = .ok (.istore_n 2, 1) := by decide +kernel
theorem zd_Q_moverBehind_11 : decode zc_Q_moverBehind 11 = .ok (.iconst 0, 1) := by decide +kernel
theorem zd_Q_moverBehind_12 : decode zc_Q_moverBehind 12 = .ok (.istore_n 3, 1) := by decide +kernel
theorem zd_Q_moverBehind_13 : decode zc_Q_moverBehind 13 = .ok (.iload_n 3, 1) := by decide +kernel
theorem zd_Q_moverBehind_14 : decode zc_Q_moverBehind 14 = .ok (.aload_n 0, 1) := by decide +kernel
theorem zd_Q_moverBehind_15 : decode zc_Q_moverBehind 15 = .ok (.getfield 55, 3) := by decide +kernel
theorem zd_Q_moverBehind_18 : decode zc_Q_moverBehind 18 = .ok (.if_icmp .ge 28, 3) := by decide +kernel
theorem zd_Q_moverBehind_21 : decode zc_Q_moverBehind 21 = .ok (.aload_n 0, 1) := by decide +kernel
theorem zd_Q_moverBehind_22 : decode zc_Q_moverBehind 22 = .ok (.getfield 15, 3) := by decide +kernel
theorem zd_Q_moverBehind_25 : decode zc_Q_moverBehind 25 = .ok (.iload_n 3, 1) := by decide +kernel
theorem zd_Q_moverBehind_26 : decode zc_Q_moverBehind 26 = .ok (.iaload, 1) := by decide +kernel
theorem zd_Q_moverBehind_27 : decode zc_Q_moverBehind 27 = .ok (.iconst (-1), 1) := by decide +kernel
theorem zd_Q_moverBehind_28 : decode zc_Q_moverBehind 28 = .ok (.if_icmp .eq 12, 3) := by decide +kernel
theorem zd_Q_moverBehind_31 : decode zc_Q_moverBehind 31 = .ok (.iload_n 2, 1) := by decide +kernel
theorem zd_Q_moverBehind_32 : decode zc_Q_moverBehind 32 = .ok (.ifCond .ne 5, 3) := by decide +kernel
theorem zd_Q_moverBehind_35 : decode zc_Q_moverBehind 35 = .ok (.iload_n 3, 1) := by decide +kernel
theorem zd_Q_moverBehind_36 : decode zc_Q_moverBehind 36 = .ok (.ireturn, 1) := by decide +kernel
theorem zd_Q_moverBehind_37 : decode zc_Q_moverBehind 37 = .ok (.iinc 2 (-1), 3) := by decide +kernel
theorem zd_Q_moverBehind_40 : decode zc_Q_moverBehind 40 = .ok (.iinc 3 1, 3) := by decide +kernel
theorem zd_Q_moverBehind_43 : decode zc_Q_moverBehind 43 = .ok (.goto (-30), 3) := by decide +kernel
theorem zd_Q_moverBehind_46 : decode zc_Q_moverBehind 46 = .ok (.iconst (-1), 1) := by decide +kernel
theorem zd_Q_moverBehind_47 : decode zc_Q_moverBehind 47 = .ok (.ireturn, 1) := by decide +kernel
theorem zd_Q_takeNext_0 : decode zc_Q_takeNext 0 = .ok (.aload_n 0, 1) := by decide +kernel
theorem zd_Q_takeNext_1 : decode zc_Q_takeNext 1 = .ok (.iload_n 1, 1) := by decide +kernel
theorem zd_Q_takeNext_2 : decode zc_Q_takeNext 2 = .ok (.invokevirtual 102, 3) := by decide +kernel
theorem zd_Q_takeNext_5 : decode zc_Q_takeNext 5 = .ok (.ifCond .eq 40, 3) := by decide +kernel
theorem zd_Q_takeNext_8 : decode zc_Q_takeNext 8 = .ok (.aload_n 0, 1) := by decide +kernel
theorem zd_Q_takeNext_9 : decode zc_Q_takeNext 9 = .ok (.invokevirtual 90, 3) := by decide +kernel
theorem zd_Q_takeNext_12 : decode zc_Q_takeNext 12 = .ok (.ifCond .eq 33, 3) := by decide +kernel
theorem zd_Q_takeNext_15 : decode zc_Q_takeNext 15 = .ok (.aload_n 0, 1) := by decide +kernel
theorem zd_Q_takeNext_16 : decode zc_Q_takeNext 16 = .ok (.getfield 15, 3) := by decide +kernel
theorem zd_Q_takeNext_19 : decode zc_Q_takeNext 19 = .ok (.iload_n 1, 1) := by decide +kernel
theorem zd_Q_takeNext_20 : decode zc_Q_takeNext 20 = .ok (.aload_n 0, 1) := by decide +kernel
theorem zd_Q_takeNext_21 : decode zc_Q_takeNext 21 = .ok (.getfield 62, 3) := by decide +kernel
theorem zd_Q_takeNext_24 : decode zc_Q_takeNext 24 = .ok (.iastore, 1) := by decide +kernel
theorem zd_Q_takeNext_25 : decode zc_Q_takeNext 25 = .ok (.aload_n 0, 1) := by decide +kernel
theorem zd_Q_takeNext_26 : decode zc_Q_takeNext 26 = .ok (.dup, 1) := by decide +kernel
theorem zd_Q_takeNext_27 : decode zc_Q_takeNext 27 = .ok (.getfield 59, 3) := by decide +kernel
theorem zd_Q_takeNext_30 : decode zc_Q_takeNext 30 = .ok (.iconst 1, 1) := by decide +kernel
theorem zd_Q_takeNext_31 : decode zc_Q_takeNext 31 = .ok (.iadd, 1) := by decide +kernel
theorem zd_Q_takeNext_32 : decode zc_Q_takeNext 32 = .ok (.putfield 59, 3) := by decide +kernel
theorem zd_Q_takeNext_35 : decode zc_Q_takeNext 35 = .ok (.aload_n 0, 1) := by decide +kernel
theorem zd_Q_takeNext_36 : decode zc_Q_takeNext 36 = .ok (.dup, 1) := by decide +kernel
theorem zd_Q_takeNext_37 : decode zc_Q_takeNext 37 = .ok (.getfield 62, 3) := by decide +kernel
theorem zd_Q_takeNext_40 : decode zc_Q_takeNext 40 = .ok (.iconst 1, 1) := by decide +kernel
theorem zd_Q_takeNext_41 : decode zc_Q_takeNext 41 = .ok (.iadd, 1) := by decide +kernel
theorem zd_Q_takeNext_42 : decode zc_Q_takeNext 42 = .ok (.putfield 62, 3) := by decide +kernel
theorem zd_Q_takeNext_45 : decode zc_Q_takeNext 45 = .ok (.return_, 1) := by decide +kernel
theorem zd_Q_spendTick_0 : decode zc_Q_spendTick 0 = .ok (.aload_n 0, 1) := by decide +kernel
theorem zd_Q_spendTick_1 : decode zc_Q_spendTick 1 = .ok (.getfield 9, 3) := by decide +kernel
theorem zd_Q_spendTick_4 : decode zc_Q_spendTick 4 = .ok (.iload_n 1, 1) := by decide +kernel
theorem zd_Q_spendTick_5 : decode zc_Q_spendTick 5 = .ok (.invokevirtual 117, 3) := by decide +kernel
theorem zd_Q_spendTick_8 : decode zc_Q_spendTick 8 = .ok (.ifCond .ne 5, 3) := by decide +kernel
theorem zd_Q_spendTick_11 : decode zc_Q_spendTick 11 = .ok (.iconst 0, 1) := by decide +kernel
theorem zd_Q_spendTick_12 : decode zc_Q_spendTick 12 = .ok (.ireturn, 1) := by decide +kernel
theorem zd_Q_spendTick_13 : decode zc_Q_spendTick 13 = .ok (.aload_n 0, 1) := by decide +kernel
theorem zd_Q_spendTick_14 : decode zc_Q_spendTick 14 = .ok (.getfield 25, 3) := by decide +kernel
theorem zd_Q_spendTick_17 : decode zc_Q_spendTick 17 = .ok (.iload_n 1, 1) := by decide +kernel
theorem zd_Q_spendTick_18 : decode zc_Q_spendTick 18 = .ok (.dup2, 1) := by decide +kernel
theorem zd_Q_spendTick_19 : decode zc_Q_spendTick 19 = .ok (.iaload, 1) := by decide +kernel
theorem zd_Q_spendTick_20 : decode zc_Q_spendTick 20 = .ok (.iconst 1, 1) := by decide +kernel
theorem zd_Q_spendTick_21 : decode zc_Q_spendTick 21 = .ok (.iadd, 1) := by decide +kernel
theorem zd_Q_spendTick_22 : decode zc_Q_spendTick 22 = .ok (.iastore, 1) := by decide +kernel
theorem zd_Q_spendTick_23 : decode zc_Q_spendTick 23 = .ok (.aload_n 0, 1) := by decide +kernel
theorem zd_Q_spendTick_24 : decode zc_Q_spendTick 24 = .ok (.getfield 22, 3) := by decide +kernel
theorem zd_Q_spendTick_27 : decode zc_Q_spendTick 27 = .ok (.iload_n 1, 1) := by decide +kernel
theorem zd_Q_spendTick_28 : decode zc_Q_spendTick 28 = .ok (.dup2, 1) := by decide +kernel
theorem zd_Q_spendTick_29 : decode zc_Q_spendTick 29 = .ok (.iaload, 1) := by decide +kernel
theorem zd_Q_spendTick_30 : decode zc_Q_spendTick 30 = .ok (.iconst 1, 1) := by decide +kernel
theorem zd_Q_spendTick_31 : decode zc_Q_spendTick 31 = .ok (.iadd, 1) := by decide +kernel
theorem zd_Q_spendTick_32 : decode zc_Q_spendTick 32 = .ok (.iastore, 1) := by decide +kernel
theorem zd_Q_spendTick_33 : decode zc_Q_spendTick 33 = .ok (.aload_n 0, 1) := by decide +kernel
theorem zd_Q_spendTick_34 : decode zc_Q_spendTick 34 = .ok (.getfield 22, 3) := by decide +kernel
theorem zd_Q_spendTick_37 : decode zc_Q_spendTick 37 = .ok (.iload_n 1, 1) := by decide +kernel
theorem zd_Q_spendTick_38 : decode zc_Q_spendTick 38 = .ok (.iaload, 1) := by decide +kernel
theorem zd_Q_spendTick_39 : decode zc_Q_spendTick 39 = .ok (.aload_n 0, 1) := by decide +kernel
theorem zd_Q_spendTick_40 : decode zc_Q_spendTick 40 = .ok (.getfield 9, 3) := by decide +kernel
theorem zd_Q_spendTick_43 : decode zc_Q_spendTick 43 = .ok (.iload_n 1, 1) := by decide +kernel
theorem zd_Q_spendTick_44 : decode zc_Q_spendTick 44 = .ok (.invokevirtual 120, 3) := by decide +kernel
theorem zd_Q_spendTick_47 : decode zc_Q_spendTick 47 = .ok (.if_icmp .ge 5, 3) := by decide +kernel
theorem zd_Q_spendTick_50 : decode zc_Q_spendTick 50 = .ok (.iconst 0, 1) := by decide +kernel
theorem zd_Q_spendTick_51 : decode zc_Q_spendTick 51 = .ok (.ireturn, 1) := by decide +kernel
theorem zd_Q_spendTick_52 : decode zc_Q_spendTick 52 = .ok (.aload_n 0, 1) := by decide +kernel
theorem zd_Q_spendTick_53 : decode zc_Q_spendTick 53 = .ok (.getfield 22, 3) := by decide +kernel
theorem zd_Q_spendTick_56 : decode zc_Q_spendTick 56 = .ok (.iload_n 1, 1) := by decide +kernel
theorem zd_Q_spendTick_57 : decode zc_Q_spendTick 57 = .ok (.iconst 0, 1) := by decide +kernel
theorem zd_Q_spendTick_58 : decode zc_Q_spendTick 58 = .ok (.iastore, 1) := by decide +kernel
theorem zd_Q_spendTick_59 : decode zc_Q_spendTick 59 = .ok (.aload_n 0, 1) := by decide +kernel
theorem zd_Q_spendTick_60 : decode zc_Q_spendTick 60 = .ok (.getfield 28, 3) := by decide +kernel
theorem zd_Q_spendTick_63 : decode zc_Q_spendTick 63 = .ok (.iload_n 1, 1) := by decide +kernel
theorem zd_Q_spendTick_64 : decode zc_Q_spendTick 64 = .ok (.iaload, 1) := by decide +kernel
theorem zd_Q_spendTick_65 : decode zc_Q_spendTick 65 = .ok (.aload_n 0, 1) := by decide +kernel
theorem zd_Q_spendTick_66 : decode zc_Q_spendTick 66 = .ok (.getfield 9, 3) := by decide +kernel
theorem zd_Q_spendTick_69 : decode zc_Q_spendTick 69 = .ok (.iload_n 1, 1) := by decide +kernel
theorem zd_Q_spendTick_70 : decode zc_Q_spendTick 70 = .ok (.invokevirtual 123, 3) := by decide +kernel
theorem zd_Q_spendTick_73 : decode zc_Q_spendTick 73 = .ok (.if_icmp .ge 15, 3) := by decide +kernel
theorem zd_Q_spendTick_76 : decode zc_Q_spendTick 76 = .ok (.aload_n 0, 1) := by decide +kernel
theorem zd_Q_spendTick_77 : decode zc_Q_spendTick 77 = .ok (.getfield 28, 3) := by decide +kernel
theorem zd_Q_spendTick_80 : decode zc_Q_spendTick 80 = .ok (.iload_n 1, 1) := by decide +kernel
theorem zd_Q_spendTick_81 : decode zc_Q_spendTick 81 = .ok (.dup2, 1) := by decide +kernel
theorem zd_Q_spendTick_82 : decode zc_Q_spendTick 82 = .ok (.iaload, 1) := by decide +kernel
theorem zd_Q_spendTick_83 : decode zc_Q_spendTick 83 = .ok (.iconst 1, 1) := by decide +kernel
theorem zd_Q_spendTick_84 : decode zc_Q_spendTick 84 = .ok (.iadd, 1) := by decide +kernel
theorem zd_Q_spendTick_85 : decode zc_Q_spendTick 85 = .ok (.iastore, 1) := by decide +kernel
theorem zd_Q_spendTick_86 : decode zc_Q_spendTick 86 = .ok (.iconst 0, 1) := by decide +kernel
theorem zd_Q_spendTick_87 : decode zc_Q_spendTick 87 = .ok (.ireturn, 1) := by decide +kernel
theorem zd_Q_spendTick_88 : decode zc_Q_spendTick 88 = .ok (.iconst 1, 1) := by decide +kernel
theorem zd_Q_spendTick_89 : decode zc_Q_spendTick 89 = .ok (.ireturn, 1) := by decide +kernel
theorem zd_Q_finish_0 : decode zc_Q_finish 0 = .ok (.aload_n 0, 1) := by decide +kernel
theorem zd_Q_finish_1 : decode zc_Q_finish 1 = .ok (.getfield 9, 3) := by decide +kernel
theorem zd_Q_finish_4 : decode zc_Q_finish 4 = .ok (.iload_n 1, 1) := by decide +kernel
theorem zd_Q_finish_5 : decode zc_Q_finish 5 = .ok (.invokevirtual 117, 3) := by decide +kernel
theorem zd_Q_finish_8 : decode zc_Q_finish 8 = .ok (.ifCond .eq 15, 3) := by decide +kernel
theorem zd_Q_finish_11 : decode zc_Q_finish 11 = .ok (.aload_n 0, 1) := by decide +kernel
theorem zd_Q_finish_12 : decode zc_Q_finish 12 = .ok (.getfield 74, 3) := by decide +kernel
theorem zd_Q_finish_15 : decode zc_Q_finish 15 = .ok (.aload_n 0, 1) := by decide +kernel
theorem zd_Q_finish_16 : decode zc_Q_finish 16 = .ok (.getfield 37, 3) := by decide +kernel
theorem zd_Q_finish_19 : decode zc_Q_finish 19 = .ok (.arraylength, 1) := by decide +kernel
theorem zd_Q_finish_20 : decode zc_Q_finish 20 = .ok (.if_icmp .lt 4, 3) := by decide +kernel
theorem zd_Q_finish_23 : decode zc_Q_finish 23 = .ok (.return_, 1) := by decide +kernel
theorem zd_Q_finish_24 : decode zc_Q_finish 24 = .ok (.aload_n 0, 1) := by decide +kernel
theorem zd_Q_finish_25 : decode zc_Q_finish 25 = .ok (.getfield 37, 3) := by decide +kernel
theorem zd_Q_finish_28 : decode zc_Q_finish 28 = .ok (.aload_n 0, 1) := by decide +kernel
theorem zd_Q_finish_29 : decode zc_Q_finish 29 = .ok (.getfield 74, 3) := by decide +kernel
theorem zd_Q_finish_32 : decode zc_Q_finish 32 = .ok (.iload_n 1, 1) := by decide +kernel
theorem zd_Q_finish_33 : decode zc_Q_finish 33 = .ok (.iastore, 1) := by decide +kernel
theorem zd_Q_finish_34 : decode zc_Q_finish 34 = .ok (.aload_n 0, 1) := by decide +kernel
theorem zd_Q_finish_35 : decode zc_Q_finish 35 = .ok (.dup, 1) := by decide +kernel
theorem zd_Q_finish_36 : decode zc_Q_finish 36 = .ok (.getfield 74, 3) := by decide +kernel
theorem zd_Q_finish_39 : decode zc_Q_finish 39 = .ok (.iconst 1, 1) := by decide +kernel
theorem zd_Q_finish_40 : decode zc_Q_finish 40 = .ok (.iadd, 1) := by decide +kernel
theorem zd_Q_finish_41 : decode zc_Q_finish 41 = .ok (.putfield 74, 3) := by decide +kernel
theorem zd_Q_finish_44 : decode zc_Q_finish 44 = .ok (.aload_n 0, 1) := by decide +kernel
theorem zd_Q_finish_45 : decode zc_Q_finish 45 = .ok (.getfield 31, 3) := by decide +kernel
theorem zd_Q_finish_48 : decode zc_Q_finish 48 = .ok (.iload_n 1, 1) := by decide +kernel
theorem zd_Q_finish_49 : decode zc_Q_finish 49 = .ok (.iload_n 2, 1) := by decide +kernel
theorem zd_Q_finish_50 : decode zc_Q_finish 50 = .ok (.iastore, 1) := by decide +kernel
theorem zd_Q_finish_51 : decode zc_Q_finish 51 = .ok (.aload_n 0, 1) := by decide +kernel
theorem zd_Q_finish_52 : decode zc_Q_finish 52 = .ok (.getfield 34, 3) := by decide +kernel
theorem zd_Q_finish_55 : decode zc_Q_finish 55 = .ok (.iload_n 1, 1) := by decide +kernel
theorem zd_Q_finish_56 : decode zc_Q_finish 56 = .ok (.aload_n 0, 1) := by decide +kernel
theorem zd_Q_finish_57 : decode zc_Q_finish 57 = .ok (.getfield 77, 3) := by decide +kernel
theorem zd_Q_finish_60 : decode zc_Q_finish 60 = .ok (.iastore, 1) := by decide +kernel
theorem zd_Q_finish_61 : decode zc_Q_finish 61 = .ok (.aload_n 0, 1) := by decide +kernel
theorem zd_Q_finish_62 : decode zc_Q_finish 62 = .ok (.iload_n 2, 1) := by decide +kernel
theorem zd_Q_finish_63 : decode zc_Q_finish 63 = .ok (.invokevirtual 126, 3) := by decide +kernel
theorem zd_Q_finish_66 : decode zc_Q_finish 66 = .ok (.aload_n 0, 1) := by decide +kernel
theorem zd_Q_finish_67 : decode zc_Q_finish 67 = .ok (.getfield 9, 3) := by decide +kernel
theorem zd_Q_finish_70 : decode zc_Q_finish 70 = .ok (.iload_n 1, 1) := by decide +kernel
theorem zd_Q_finish_71 : decode zc_Q_finish 71 = .ok (.invokevirtual 129, 3) := by decide +kernel
theorem zd_Q_finish_74 : decode zc_Q_finish 74 = .ok (.ifCond .eq 13, 3) := by decide +kernel
theorem zd_Q_finish_77 : decode zc_Q_finish 77 = .ok (.aload_n 0, 1) := by decide +kernel
theorem zd_Q_finish_78 : decode zc_Q_finish 78 = .ok (.iload_n 1, 1) := by decide +kernel
theorem zd_Q_finish_79 : decode zc_Q_finish 79 = .ok (.putfield 71, 3) := by decide +kernel
theorem zd_Q_finish_82 : decode zc_Q_finish 82 = .ok (.aload_n 0, 1) := by decide +kernel
theorem zd_Q_finish_83 : decode zc_Q_finish 83 = .ok (.iload_n 1, 1) := by decide +kernel
theorem zd_Q_finish_84 : decode zc_Q_finish 84 = .ok (.invokevirtual 132, 3) := by decide +kernel
theorem zd_Q_finish_87 : decode zc_Q_finish 87 = .ok (.return_, 1) := by decide +kernel
theorem zd_Q_dropBehind_0 : decode zc_Q_dropBehind 0 = .ok (.iconst 0, 1) := by decide +kernel
theorem zd_Q_dropBehind_1 : decode zc_Q_dropBehind 1 = .ok (.istore_n 2, 1) := by decide +kernel
theorem zd_Q_dropBehind_2 : decode zc_Q_dropBehind 2 = .ok (.iload_n 2, 1) := by decide +kernel
theorem zd_Q_dropBehind_3 : decode zc_Q_dropBehind 3 = .ok (.aload_n 0, 1) := by decide +kernel
theorem zd_Q_dropBehind_4 : decode zc_Q_dropBehind 4 = .ok (.getfield 55, 3) := by decide +kernel
theorem zd_Q_dropBehind_7 : decode zc_Q_dropBehind 7 = .ok (.if_icmp .ge 24, 3) := by decide +kernel
theorem zd_Q_dropBehind_10 : decode zc_Q_dropBehind 10 = .ok (.aload_n 0, 1) := by decide +kernel
theorem zd_Q_dropBehind_11 : decode zc_Q_dropBehind 11 = .ok (.getfield 15, 3) := by decide +kernel
theorem zd_Q_dropBehind_14 : decode zc_Q_dropBehind 14 = .ok (.iload_n 2, 1) := by decide +kernel
theorem zd_Q_dropBehind_15 : decode zc_Q_dropBehind 15 = .ok (.iaload, 1) := by decide +kernel
theorem zd_Q_dropBehind_16 : decode zc_Q_dropBehind 16 = .ok (.iload_n 1, 1) := by decide +kernel
theorem zd_Q_dropBehind_17 : decode zc_Q_dropBehind 17 = .ok (.if_icmp .le 8, 3) := by decide +kernel
theorem zd_Q_dropBehind_20 : decode zc_Q_dropBehind 20 = .ok (.aload_n 0, 1) := by decide +kernel
theorem zd_Q_dropBehind_21 : decode zc_Q_dropBehind 21 = .ok (.iload_n 2, 1) := by decide +kernel
theorem zd_Q_dropBehind_22 : decode zc_Q_dropBehind 22 = .ok (.invokevirtual 126, 3) := by decide +kernel
theorem zd_Q_dropBehind_25 : decode zc_Q_dropBehind 25 = .ok (.iinc 2 1, 3) := by decide +kernel
theorem zd_Q_dropBehind_28 : decode zc_Q_dropBehind 28 = .ok (.goto (-26), 3) := by decide +kernel
theorem zd_Q_dropBehind_31 : decode zc_Q_dropBehind 31 = .ok (.return_, 1) := by decide +kernel
theorem zd_Q_letGo_0 : decode zc_Q_letGo 0 = .ok (.aload_n 0, 1) := by decide +kernel
theorem zd_Q_letGo_1 : decode zc_Q_letGo 1 = .ok (.iload_n 1, 1) := by decide +kernel
theorem zd_Q_letGo_2 : decode zc_Q_letGo 2 = .ok (.invokevirtual 102, 3) := by decide +kernel
theorem zd_Q_letGo_5 : decode zc_Q_letGo 5 = .ok (.ifCond .eq 30, 3) := by decide +kernel
theorem zd_Q_letGo_8 : decode zc_Q_letGo 8 = .ok (.aload_n 0, 1) := by decide +kernel
theorem zd_Q_letGo_9 : decode zc_Q_letGo 9 = .ok (.getfield 15, 3) := by decide +kernel
theorem zd_Q_letGo_12 : decode zc_Q_letGo 12 = .ok (.iload_n 1, 1) := by decide +kernel
theorem zd_Q_letGo_13 : decode zc_Q_letGo 13 = .ok (.iaload, 1) := by decide +kernel
theorem zd_Q_letGo_14 : decode zc_Q_letGo 14 = .ok (.iconst (-1), 1) := by decide +kernel
theorem zd_Q_letGo_15 : decode zc_Q_letGo 15 = .ok (.if_icmp .eq 20, 3) := by decide +kernel
theorem zd_Q_letGo_18 : decode zc_Q_letGo 18 = .ok (.aload_n 0, 1) := by decide +kernel
theorem zd_Q_letGo_19 : decode zc_Q_letGo 19 = .ok (.getfield 15, 3) := by decide +kernel
theorem zd_Q_letGo_22 : decode zc_Q_letGo 22 = .ok (.iload_n 1, 1) := by decide +kernel
theorem zd_Q_letGo_23 : decode zc_Q_letGo 23 = .ok (.iconst (-1), 1) := by decide +kernel
theorem zd_Q_letGo_24 : decode zc_Q_letGo 24 = .ok (.iastore, 1) := by decide +kernel
theorem zd_Q_letGo_25 : decode zc_Q_letGo 25 = .ok (.aload_n 0, 1) := by decide +kernel
theorem zd_Q_letGo_26 : decode zc_Q_letGo 26 = .ok (.dup, 1) := by decide +kernel
theorem zd_Q_letGo_27 : decode zc_Q_letGo 27 = .ok (.getfield 59, 3) := by decide +kernel
theorem zd_Q_letGo_30 : decode zc_Q_letGo 30 = .ok (.iconst 1, 1) := by decide +kernel
theorem zd_Q_letGo_31 : decode zc_Q_letGo 31 = .ok (.isub, 1) := by decide +kernel
theorem zd_Q_letGo_32 : decode zc_Q_letGo 32 = .ok (.putfield 59, 3) := by decide +kernel
theorem zd_Q_letGo_35 : decode zc_Q_letGo 35 = .ok (.return_, 1) := by decide +kernel
theorem zd_Q_countedTicks_0 : decode zc_Q_countedTicks 0 = .ok (.aload_n 0, 1) := by decide +kernel
theorem zd_Q_countedTicks_1 : decode zc_Q_countedTicks 1 = .ok (.getfield 9, 3) := by decide +kernel
theorem zd_Q_countedTicks_4 : decode zc_Q_countedTicks 4 = .ok (.invokevirtual 135, 3) := by decide +kernel
theorem zd_Q_countedTicks_7 : decode zc_Q_countedTicks 7 = .ok (.istore_n 1, 1) := by decide +kernel
theorem zd_Q_countedTicks_8 : decode zc_Q_countedTicks 8 = .ok (.iload_n 1, 1) := by decide +kernel
theorem zd_Q_countedTicks_9 : decode zc_Q_countedTicks 9 = .ok (.iconst (-1), 1) := by decide +kernel
theorem zd_Q_countedTicks_10 : decode zc_Q_countedTicks 10 = .ok (.if_icmp .ne 15, 3) := by decide +kernel
theorem zd_Q_countedTicks_13 : decode zc_Q_countedTicks 13 = .ok (.aload_n 0, 1) := by decide +kernel
theorem zd_Q_countedTicks_14 : decode zc_Q_countedTicks 14 = .ok (.getfield 9, 3) := by decide +kernel
theorem zd_Q_countedTicks_17 : decode zc_Q_countedTicks 17 = .ok (.invokevirtual 65, 3) := by decide +kernel
theorem zd_Q_countedTicks_20 : decode zc_Q_countedTicks 20 = .ok (.iconst 1, 1) := by decide +kernel
theorem zd_Q_countedTicks_21 : decode zc_Q_countedTicks 21 = .ok (.isub, 1) := by decide +kernel
theorem zd_Q_countedTicks_22 : decode zc_Q_countedTicks 22 = .ok (.goto 4, 3) := by decide +kernel
theorem zd_Q_countedTicks_25 : decode zc_Q_countedTicks 25 = .ok (.iload_n 1, 1) := by decide +kernel
theorem zd_Q_countedTicks_26 : decode zc_Q_countedTicks 26 = .ok (.istore_n 2, 1) := by decide +kernel
theorem zd_Q_countedTicks_27 : decode zc_Q_countedTicks 27 = .ok (.iconst 0, 1) := by decide +kernel
theorem zd_Q_countedTicks_28 : decode zc_Q_countedTicks 28 = .ok (.istore_n 3, 1) := by decide +kernel
theorem zd_Q_countedTicks_29 : decode zc_Q_countedTicks 29 = .ok (.iconst 0, 1) := by decide +kernel
theorem zd_Q_countedTicks_30 : decode zc_Q_countedTicks 30 = .ok (.istore 4, 2) := by decide +kernel
theorem zd_Q_countedTicks_32 : decode zc_Q_countedTicks 32 = .ok (.iload 4, 2) := by decide +kernel
theorem zd_Q_countedTicks_34 : decode zc_Q_countedTicks 34 = .ok (.iload_n 2, 1) := by decide +kernel
theorem zd_Q_countedTicks_35 : decode zc_Q_countedTicks 35 = .ok (.if_icmp .gt 29, 3) := by decide +kernel
theorem zd_Q_countedTicks_38 : decode zc_Q_countedTicks 38 = .ok (.iload 4, 2) := by decide +kernel
theorem zd_Q_countedTicks_40 : decode zc_Q_countedTicks 40 = .ok (.aload_n 0, 1) := by decide +kernel
theorem zd_Q_countedTicks_41 : decode zc_Q_countedTicks 41 = .ok (.getfield 25, 3) := by decide +kernel
theorem zd_Q_countedTicks_44 : decode zc_Q_countedTicks 44 = .ok (.arraylength, 1) := by decide +kernel
theorem zd_Q_countedTicks_45 : decode zc_Q_countedTicks 45 = .ok (.if_icmp .ge 19, 3) := by decide +kernel
theorem zd_Q_countedTicks_48 : decode zc_Q_countedTicks 48 = .ok (.iload_n 3, 1) := by decide +kernel
theorem zd_Q_countedTicks_49 : decode zc_Q_countedTicks 49 = .ok (.aload_n 0, 1) := by decide +kernel
theorem zd_Q_countedTicks_50 : decode zc_Q_countedTicks 50 = .ok (.getfield 25, 3) := by decide +kernel
theorem zd_Q_countedTicks_53 : decode zc_Q_countedTicks 53 = .ok (.iload 4, 2) := by decide +kernel
theorem zd_Q_countedTicks_55 : decode zc_Q_countedTicks 55 = .ok (.iaload, 1) := by decide +kernel
theorem zd_Q_countedTicks_56 : decode zc_Q_countedTicks 56 = .ok (.iadd, 1) := by decide +kernel
theorem zd_Q_countedTicks_57 : decode zc_Q_countedTicks 57 = .ok (.istore_n 3, 1) := by decide +kernel
theorem zd_Q_countedTicks_58 : decode zc_Q_countedTicks 58 = .ok (.iinc 4 1, 3) := by decide +kernel
theorem zd_Q_countedTicks_61 : decode zc_Q_countedTicks 61 = .ok (.goto (-29), 3) := by decide +kernel
theorem zd_Q_countedTicks_64 : decode zc_Q_countedTicks 64 = .ok (.iload_n 3, 1) := by decide +kernel
theorem zd_Q_countedTicks_65 : decode zc_Q_countedTicks 65 = .ok (.ireturn, 1) := by decide +kernel
theorem zd_Q_allTicks_0 : decode zc_Q_allTicks 0 = .ok (.aload_n 0, 1) := by decide +kernel
theorem zd_Q_allTicks_1 : decode zc_Q_allTicks 1 = .ok (.getfield 77, 3) := by decide +kernel
theorem zd_Q_allTicks_4 : decode zc_Q_allTicks 4 = .ok (.ireturn, 1) := by decide +kernel
theorem zd_Q_hasWorker_0 : decode zc_Q_hasWorker 0 = .ok (.iload_n 1, 1) := by decide +kernel
theorem zd_Q_hasWorker_1 : decode zc_Q_hasWorker 1 = .ok (.ifCond .lt 15, 3) := by decide +kernel
theorem zd_Q_hasWorker_4 : decode zc_Q_hasWorker 4 = .ok (.iload_n 1, 1) := by decide +kernel
theorem zd_Q_hasWorker_5 : decode zc_Q_hasWorker 5 = .ok (.aload_n 0, 1) := by decide +kernel
theorem zd_Q_hasWorker_6 : decode zc_Q_hasWorker 6 = .ok (.getfield 55, 3) := by decide +kernel
theorem zd_Q_hasWorker_9 : decode zc_Q_hasWorker 9 = .ok (.if_icmp .ge 7, 3) := by decide +kernel
theorem zd_Q_hasWorker_12 : decode zc_Q_hasWorker 12 = .ok (.iconst 1, 1) := by decide +kernel
theorem zd_Q_hasWorker_13 : decode zc_Q_hasWorker 13 = .ok (.goto 4, 3) := by decide +kernel
theorem zd_Q_hasWorker_16 : decode zc_Q_hasWorker 16 = .ok (.iconst 0, 1) := by decide +kernel
theorem zd_Q_hasWorker_17 : decode zc_Q_hasWorker 17 = .ok (.ireturn, 1) := by decide +kernel
theorem zd_Q_movesOf_0 : decode zc_Q_movesOf 0 = .ok (.aload_n 0, 1) := by decide +kernel
theorem zd_Q_movesOf_1 : decode zc_Q_movesOf 1 = .ok (.iload_n 1, 1) := by decide +kernel
theorem zd_Q_movesOf_2 : decode zc_Q_movesOf 2 = .ok (.invokevirtual 102, 3) := by decide +kernel
theorem zd_Q_movesOf_5 : decode zc_Q_movesOf 5 = .ok (.ifCond .eq 12, 3) := by decide +kernel
theorem zd_Q_movesOf_8 : decode zc_Q_movesOf 8 = .ok (.aload_n 0, 1) := by decide +kernel
theorem zd_Q_movesOf_9 : decode zc_Q_movesOf 9 = .ok (.getfield 19, 3) := by decide +kernel
theorem zd_Q_movesOf_12 : decode zc_Q_movesOf 12 = .ok (.iload_n 1, 1) := by decide +kernel
theorem zd_Q_movesOf_13 : decode zc_Q_movesOf 13 = .ok (.iaload, 1) := by decide +kernel
theorem zd_Q_movesOf_14 : decode zc_Q_movesOf 14 = .ok (.goto 4, 3) := by decide +kernel
theorem zd_Q_movesOf_17 : decode zc_Q_movesOf 17 = .ok (.iconst 0, 1) := by decide +kernel
theorem zd_Q_movesOf_18 : decode zc_Q_movesOf 18 = .ok (.ireturn, 1) := by decide +kernel
theorem zd_Q_hasPlace_0 : decode zc_Q_hasPlace 0 = .ok (.iload_n 1, 1) := by decide +kernel
theorem zd_Q_hasPlace_1 : decode zc_Q_hasPlace 1 = .ok (.ifCond .lt 15, 3) := by decide +kernel
theorem zd_Q_hasPlace_4 : decode zc_Q_hasPlace 4 = .ok (.iload_n 1, 1) := by decide +kernel
theorem zd_Q_hasPlace_5 : decode zc_Q_hasPlace 5 = .ok (.aload_n 0, 1) := by decide +kernel
theorem zd_Q_hasPlace_6 : decode zc_Q_hasPlace 6 = .ok (.getfield 74, 3) := by decide +kernel
theorem zd_Q_hasPlace_9 : decode zc_Q_hasPlace 9 = .ok (.if_icmp .ge 7, 3) := by decide +kernel
theorem zd_Q_hasPlace_12 : decode zc_Q_hasPlace 12 = .ok (.iconst 1, 1) := by decide +kernel
theorem zd_Q_hasPlace_13 : decode zc_Q_hasPlace 13 = .ok (.goto 4, 3) := by decide +kernel
theorem zd_Q_hasPlace_16 : decode zc_Q_hasPlace 16 = .ok (.iconst 0, 1) := by decide +kernel
theorem zd_Q_hasPlace_17 : decode zc_Q_hasPlace 17 = .ok (.ireturn, 1) := by decide +kernel
theorem zd_Q_shareInPlace_0 : decode zc_Q_shareInPlace 0 = .ok (.aload_n 0, 1) := by decide +kernel
theorem zd_Q_shareInPlace_1 : decode zc_Q_shareInPlace 1 = .ok (.iload_n 1, 1) := by decide +kernel
theorem zd_Q_shareInPlace_2 : decode zc_Q_shareInPlace 2 = .ok (.invokevirtual 138, 3) := by decide +kernel
theorem zd_Q_shareInPlace_5 : decode zc_Q_shareInPlace 5 = .ok (.ifCond .eq 12, 3) := by decide +kernel
theorem zd_Q_shareInPlace_8 : decode zc_Q_shareInPlace 8 = .ok (.aload_n 0, 1) := by decide +kernel
theorem zd_Q_shareInPlace_9 : decode zc_Q_shareInPlace 9 = .ok (.getfield 37, 3) := by decide +kernel
theorem zd_Q_shareInPlace_12 : decode zc_Q_shareInPlace 12 = .ok (.iload_n 1, 1) := by decide +kernel
theorem zd_Q_shareInPlace_13 : decode zc_Q_shareInPlace 13 = .ok (.iaload, 1) := by decide +kernel
theorem zd_Q_shareInPlace_14 : decode zc_Q_shareInPlace 14 = .ok (.goto 4, 3) := by decide +kernel
theorem zd_Q_shareInPlace_17 : decode zc_Q_shareInPlace 17 = .ok (.iconst (-1), 1) := by decide +kernel
theorem zd_Q_shareInPlace_18 : decode zc_Q_shareInPlace 18 = .ok (.ireturn, 1) := by decide +kernel
theorem zd_Q_doerOf_0 : decode zc_Q_doerOf 0 = .ok (.aload_n 0, 1) := by decide +kernel
theorem zd_Q_doerOf_1 : decode zc_Q_doerOf 1 = .ok (.getfield 9, 3) := by decide +kernel
theorem zd_Q_doerOf_4 : decode zc_Q_doerOf 4 = .ok (.iload_n 1, 1) := by decide +kernel
theorem zd_Q_doerOf_5 : decode zc_Q_doerOf 5 = .ok (.invokevirtual 117, 3) := by decide +kernel
theorem zd_Q_doerOf_8 : decode zc_Q_doerOf 8 = .ok (.ifCond .eq 12, 3) := by decide +kernel
theorem zd_Q_doerOf_11 : decode zc_Q_doerOf 11 = .ok (.aload_n 0, 1) := by decide +kernel
theorem zd_Q_doerOf_12 : decode zc_Q_doerOf 12 = .ok (.getfield 31, 3) := by decide +kernel
theorem zd_Q_doerOf_15 : decode zc_Q_doerOf 15 = .ok (.iload_n 1, 1) := by decide +kernel
theorem zd_Q_doerOf_16 : decode zc_Q_doerOf 16 = .ok (.iaload, 1) := by decide +kernel
theorem zd_Q_doerOf_17 : decode zc_Q_doerOf 17 = .ok (.goto 4, 3) := by decide +kernel
theorem zd_Q_doerOf_20 : decode zc_Q_doerOf 20 = .ok (.iconst (-1), 1) := by decide +kernel
theorem zd_Q_doerOf_21 : decode zc_Q_doerOf 21 = .ok (.ireturn, 1) := by decide +kernel
theorem zd_Q_failuresOf_0 : decode zc_Q_failuresOf 0 = .ok (.aload_n 0, 1) := by decide +kernel
theorem zd_Q_failuresOf_1 : decode zc_Q_failuresOf 1 = .ok (.getfield 9, 3) := by decide +kernel
theorem zd_Q_failuresOf_4 : decode zc_Q_failuresOf 4 = .ok (.iload_n 1, 1) := by decide +kernel
theorem zd_Q_failuresOf_5 : decode zc_Q_failuresOf 5 = .ok (.invokevirtual 117, 3) := by decide +kernel
theorem zd_Q_failuresOf_8 : decode zc_Q_failuresOf 8 = .ok (.ifCond .eq 12, 3) := by decide +kernel
theorem zd_Q_failuresOf_11 : decode zc_Q_failuresOf 11 = .ok (.aload_n 0, 1) := by decide +kernel
theorem zd_Q_failuresOf_12 : decode zc_Q_failuresOf 12 = .ok (.getfield 28, 3) := by decide +kernel
theorem zd_Q_failuresOf_15 : decode zc_Q_failuresOf 15 = .ok (.iload_n 1, 1) := by decide +kernel
theorem zd_Q_failuresOf_16 : decode zc_Q_failuresOf 16 = .ok (.iaload, 1) := by decide +kernel
theorem zd_Q_failuresOf_17 : decode zc_Q_failuresOf 17 = .ok (.goto 4, 3) := by decide +kernel
theorem zd_Q_failuresOf_20 : decode zc_Q_failuresOf 20 = .ok (.iconst 0, 1) := by decide +kernel
theorem zd_Q_failuresOf_21 : decode zc_Q_failuresOf 21 = .ok (.ireturn, 1) := by decide +kernel
theorem zd_Q_doneTickOf_0 : decode zc_Q_doneTickOf 0 = .ok (.aload_n 0, 1) := by decide +kernel
theorem zd_Q_doneTickOf_1 : decode zc_Q_doneTickOf 1 = .ok (.getfield 9, 3) := by decide +kernel
theorem zd_Q_doneTickOf_4 : decode zc_Q_doneTickOf 4 = .ok (.iload_n 1, 1) := by decide +kernel
theorem zd_Q_doneTickOf_5 : decode zc_Q_doneTickOf 5 = .ok (.invokevirtual 117, 3) := by decide +kernel
theorem zd_Q_doneTickOf_8 : decode zc_Q_doneTickOf 8 = .ok (.ifCond .eq 12, 3) := by decide +kernel
theorem zd_Q_doneTickOf_11 : decode zc_Q_doneTickOf 11 = .ok (.aload_n 0, 1) := by decide +kernel
theorem zd_Q_doneTickOf_12 : decode zc_Q_doneTickOf 12 = .ok (.getfield 34, 3) := by decide +kernel
theorem zd_Q_doneTickOf_15 : decode zc_Q_doneTickOf 15 = .ok (.iload_n 1, 1) := by decide +kernel
theorem zd_Q_doneTickOf_16 : decode zc_Q_doneTickOf 16 = .ok (.iaload, 1) := by decide +kernel
theorem zd_Q_doneTickOf_17 : decode zc_Q_doneTickOf 17 = .ok (.goto 4, 3) := by decide +kernel
theorem zd_Q_doneTickOf_20 : decode zc_Q_doneTickOf 20 = .ok (.iconst 0, 1) := by decide +kernel
theorem zd_Q_doneTickOf_21 : decode zc_Q_doneTickOf 21 = .ok (.ireturn, 1) := by decide +kernel
end
section
theorem zd_S_init_0 : decode zc_S_init 0 = .ok (.aload_n 0, 1) := by decide +kernel
theorem zd_S_init_1 : decode zc_S_init 1 = .ok (.invokespecial 1, 3) := by decide +kernel
theorem zd_S_init_4 : decode zc_S_init 4 = .ok (.aload_n 0, 1) := by decide +kernel
theorem zd_S_init_5 : decode zc_S_init 5 = .ok (.new 7, 3) := by decide +kernel
theorem zd_S_init_8 : decode zc_S_init 8 = .ok (.dup, 1) := by decide +kernel
theorem zd_S_init_9 : decode zc_S_init 9 = .ok (.iload_n 1, 1) := by decide +kernel
theorem zd_S_init_10 : decode zc_S_init 10 = .ok (.invokespecial 9, 3) := by decide +kernel
theorem zd_S_init_13 : decode zc_S_init 13 = .ok (.putfield 12, 3) := by decide +kernel
theorem zd_S_init_16 : decode zc_S_init 16 = .ok (.aload_n 0, 1) := by decide +kernel
theorem zd_S_init_17 : decode zc_S_init 17 = .ok (.new 18, 3) := by decide +kernel
theorem zd_S_init_20 : decode zc_S_init 20 = .ok (.dup, 1) := by decide +kernel
theorem zd_S_init_21 : decode zc_S_init 21 = .ok (.aload_n 0, 1) := by decide +kernel
theorem zd_S_init_22 : decode zc_S_init 22 = .ok (.getfield 12, 3) := by decide +kernel
theorem zd_S_init_25 : decode zc_S_init 25 = .ok (.invokespecial 20, 3) := by decide +kernel
theorem zd_S_init_28 : decode zc_S_init 28 = .ok (.putfield 23, 3) := by decide +kernel
theorem zd_S_init_31 : decode zc_S_init 31 = .ok (.aload_n 0, 1) := by decide +kernel
theorem zd_S_init_32 : decode zc_S_init 32 = .ok (.iconst 0, 1) := by decide +kernel
theorem zd_S_init_33 : decode zc_S_init 33 = .ok (.putfield 27, 3) := by decide +kernel
theorem zd_S_init_36 : decode zc_S_init 36 = .ok (.return_, 1) := by decide +kernel
theorem zd_S_value_0 : decode zc_S_value 0 = .ok (.aload_n 0, 1) := by decide +kernel
theorem zd_S_value_1 : decode zc_S_value 1 = .ok (.iload_n 1, 1) := by decide +kernel
theorem zd_S_value_2 : decode zc_S_value 2 = .ok (.invokevirtual 31, 3) := by decide +kernel
theorem zd_S_value_5 : decode zc_S_value 5 = .ok (.iload_n 2, 1) := by decide +kernel
theorem zd_S_value_6 : decode zc_S_value 6 = .ok (.iconst 1, 1) := by decide +kernel
theorem zd_S_value_7 : decode zc_S_value 7 = .ok (.if_icmp .lt 9, 3) := by decide +kernel
theorem zd_S_value_10 : decode zc_S_value 10 = .ok (.iload_n 2, 1) := by decide +kernel
theorem zd_S_value_11 : decode zc_S_value 11 = .ok (.bipush 100, 2) := by decide +kernel
theorem zd_S_value_13 : decode zc_S_value 13 = .ok (.if_icmp .le 13, 3) := by decide +kernel
theorem zd_S_value_16 : decode zc_S_value 16 = .ok (.new 34, 3) := by decide +kernel
theorem zd_S_value_19 : decode zc_S_value 19 = .ok (.dup, 1) := by decide +kernel
theorem zd_S_value_20 : decode zc_S_value 20 = .ok (.ldc 36, 2) := by decide +kernel
theorem zd_S_value_22 : decode zc_S_value 22 = .ok (.invokespecial 38, 3) := by decide +kernel
theorem zd_S_value_25 : decode zc_S_value 25 = .ok (.athrow, 1) := by decide +kernel
theorem zd_S_value_26 : decode zc_S_value 26 = .ok (.aload_n 0, 1) := by decide +kernel
theorem zd_S_value_27 : decode zc_S_value 27 = .ok (.getfield 12, 3) := by decide +kernel
theorem zd_S_value_30 : decode zc_S_value 30 = .ok (.iload_n 1, 1) := by decide +kernel
theorem zd_S_value_31 : decode zc_S_value 31 = .ok (.iload_n 2, 1) := by decide +kernel
theorem zd_S_value_32 : decode zc_S_value 32 = .ok (.lload_n 3, 1) := by decide +kernel
theorem zd_S_value_33 : decode zc_S_value 33 = .ok (.iload 5, 2) := by decide +kernel
theorem zd_S_value_35 : decode zc_S_value 35 = .ok (.invokevirtual 41, 3) := by decide +kernel
theorem zd_S_value_38 : decode zc_S_value 38 = .ok (.istore 6, 2) := by decide +kernel
theorem zd_S_value_40 : decode zc_S_value 40 = .ok (.aload_n 0, 1) := by decide +kernel
theorem zd_S_value_41 : decode zc_S_value 41 = .ok (.iload 6, 2) := by decide +kernel
theorem zd_S_value_43 : decode zc_S_value 43 = .ok (.invokevirtual 45, 3) := by decide +kernel
theorem zd_S_value_46 : decode zc_S_value 46 = .ok (.iload 6, 2) := by decide +kernel
theorem zd_S_value_48 : decode zc_S_value 48 = .ok (.ireturn, 1) := by decide +kernel
theorem zd_S_faults_0 : decode zc_S_faults 0 = .ok (.aload_n 0, 1) := by decide +kernel
theorem zd_S_faults_1 : decode zc_S_faults 1 = .ok (.iload_n 1, 1) := by decide +kernel
theorem zd_S_faults_2 : decode zc_S_faults 2 = .ok (.invokevirtual 31, 3) := by decide +kernel
theorem zd_S_faults_5 : decode zc_S_faults 5 = .ok (.iload_n 2, 1) := by decide +kernel
theorem zd_S_faults_6 : decode zc_S_faults 6 = .ok (.ifCond .lt 8, 3) := by decide +kernel
theorem zd_S_faults_9 : decode zc_S_faults 9 = .ok (.iload_n 2, 1) := by decide +kernel
theorem zd_S_faults_10 : decode zc_S_faults 10 = .ok (.iconst 3, 1) := by decide +kernel
theorem zd_S_faults_11 : decode zc_S_faults 11 = .ok (.if_icmp .le 13, 3) := by decide +kernel
theorem zd_S_faults_14 : decode zc_S_faults 14 = .ok (.new 34, 3) := by decide +kernel
theorem zd_S_faults_17 : decode zc_S_faults 17 = .ok (.dup, 1) := by decide +kernel
theorem zd_S_faults_18 : decode zc_S_faults 18 = .ok (.ldc 49, 2) := by decide +kernel
theorem zd_S_faults_20 : decode zc_S_faults 20 = .ok (.invokespecial 38, 3) := by decide +kernel
theorem zd_S_faults_23 : decode zc_S_faults 23 = .ok (.athrow, 1) := by decide +kernel
theorem zd_S_faults_24 : decode zc_S_faults 24 = .ok (.aload_n 0, 1) := by decide +kernel
theorem zd_S_faults_25 : decode zc_S_faults 25 = .ok (.getfield 12, 3) := by decide +kernel
theorem zd_S_faults_28 : decode zc_S_faults 28 = .ok (.iload_n 1, 1) := by decide +kernel
theorem zd_S_faults_29 : decode zc_S_faults 29 = .ok (.iload_n 2, 1) := by decide +kernel
theorem zd_S_faults_30 : decode zc_S_faults 30 = .ok (.invokevirtual 51, 3) := by decide +kernel
theorem zd_S_faults_33 : decode zc_S_faults 33 = .ok (.istore_n 3, 1) := by decide +kernel
theorem zd_S_faults_34 : decode zc_S_faults 34 = .ok (.aload_n 0, 1) := by decide +kernel
theorem zd_S_faults_35 : decode zc_S_faults 35 = .ok (.iload_n 3, 1) := by decide +kernel
theorem zd_S_faults_36 : decode zc_S_faults 36 = .ok (.invokevirtual 45, 3) := by decide +kernel
theorem zd_S_faults_39 : decode zc_S_faults 39 = .ok (.iload_n 3, 1) := by decide +kernel
theorem zd_S_faults_40 : decode zc_S_faults 40 = .ok (.ireturn, 1) := by decide +kernel
theorem zd_S_run_0 : decode zc_S_run 0 = .ok (.iload_n 1, 1) := by decide +kernel
theorem zd_S_run_1 : decode zc_S_run 1 = .ok (.iconst 1, 1) := by decide +kernel
theorem zd_S_run_2 : decode zc_S_run 2 = .ok (.if_icmp .lt 9, 3) := by decide +kernel
theorem zd_S_run_5 : decode zc_S_run 5 = .ok (.iload_n 1, 1) := by decide +kernel
theorem zd_S_run_6 : decode zc_S_run 6 = .ok (.bipush 16, 2) := by decide +kernel
theorem zd_S_run_8 : decode zc_S_run 8 = .ok (.if_icmp .le 13, 3) := by decide +kernel
theorem zd_S_run_11 : decode zc_S_run 11 = .ok (.new 34, 3) := by decide +kernel
theorem zd_S_run_14 : decode zc_S_run 14 = .ok (.dup, 1) := by decide +kernel
theorem zd_S_run_15 : decode zc_S_run 15 = .ok (.ldc 55, 2) := by decide +kernel
theorem zd_S_run_17 : decode zc_S_run 17 = .ok (.invokespecial 38, 3) := by decide +kernel
theorem zd_S_run_20 : decode zc_S_run 20 = .ok (.athrow, 1) := by decide +kernel
theorem zd_S_run_21 : decode zc_S_run 21 = .ok (.iload 4, 2) := by decide +kernel
theorem zd_S_run_23 : decode zc_S_run 23 = .ok (.ifCond .lt 11, 3) := by decide +kernel
theorem zd_S_run_26 : decode zc_S_run 26 = .ok (.iload 4, 2) := by decide +kernel
theorem zd_S_run_28 : decode zc_S_run 28 = .ok (.sipush 10000, 3) := by decide +kernel
theorem zd_S_run_31 : decode zc_S_run 31 = .ok (.if_icmp .le 13, 3) := by decide +kernel
theorem zd_S_run_34 : decode zc_S_run 34 = .ok (.new 34, 3) := by decide +kernel
theorem zd_S_run_37 : decode zc_S_run 37 = .ok (.dup, 1) := by decide +kernel
theorem zd_S_run_38 : decode zc_S_run 38 = .ok (.ldc 57, 2) := by decide +kernel
theorem zd_S_run_40 : decode zc_S_run 40 = .ok (.invokespecial 38, 3) := by decide +kernel
theorem zd_S_run_43 : decode zc_S_run 43 = .ok (.athrow, 1) := by decide +kernel
theorem zd_S_run_44 : decode zc_S_run 44 = .ok (.aload_n 0, 1) := by decide +kernel
theorem zd_S_run_45 : decode zc_S_run 45 = .ok (.getfield 23, 3) := by decide +kernel
theorem zd_S_run_48 : decode zc_S_run 48 = .ok (.iload_n 1, 1) := by decide +kernel
theorem zd_S_run_49 : decode zc_S_run 49 = .ok (.lload_n 2, 1) := by decide +kernel
theorem zd_S_run_50 : decode zc_S_run 50 = .ok (.invokevirtual 59, 3) := by decide +kernel
theorem zd_S_run_53 : decode zc_S_run 53 = .ok (.aload_n 0, 1) := by decide +kernel
theorem zd_S_run_54 : decode zc_S_run 54 = .ok (.aload_n 0, 1) := by decide +kernel
theorem zd_S_run_55 : decode zc_S_run 55 = .ok (.getfield 23, 3) := by decide +kernel
theorem zd_S_run_58 : decode zc_S_run 58 = .ok (.iload 4, 2) := by decide +kernel
theorem zd_S_run_60 : decode zc_S_run 60 = .ok (.invokevirtual 63, 3) := by decide +kernel
theorem zd_S_run_63 : decode zc_S_run 63 = .ok (.putfield 27, 3) := by decide +kernel
theorem zd_S_run_66 : decode zc_S_run 66 = .ok (.aload_n 0, 1) := by decide +kernel
theorem zd_S_run_67 : decode zc_S_run 67 = .ok (.getfield 27, 3) := by decide +kernel
theorem zd_S_run_70 : decode zc_S_run 70 = .ok (.ifCond .eq 13, 3) := by decide +kernel
theorem zd_S_run_73 : decode zc_S_run 73 = .ok (.aload_n 0, 1) := by decide +kernel
theorem zd_S_run_74 : decode zc_S_run 74 = .ok (.getfield 12, 3) := by decide +kernel
theorem zd_S_run_77 : decode zc_S_run 77 = .ok (.invokevirtual 67, 3) := by decide +kernel
theorem zd_S_run_80 : decode zc_S_run 80 = .ok (.goto 5, 3) := by decide +kernel
theorem zd_S_run_83 : decode zc_S_run 83 = .ok (.bipush (-2), 2) := by decide +kernel
theorem zd_S_run_85 : decode zc_S_run 85 = .ok (.ireturn, 1) := by decide +kernel
theorem zd_S_answer_0 : decode zc_S_answer 0 = .ok (.aload_n 0, 1) := by decide +kernel
theorem zd_S_answer_1 : decode zc_S_answer 1 = .ok (.invokevirtual 71, 3) := by decide +kernel
theorem zd_S_answer_4 : decode zc_S_answer 4 = .ok (.aload_n 0, 1) := by decide +kernel
theorem zd_S_answer_5 : decode zc_S_answer 5 = .ok (.getfield 12, 3) := by decide +kernel
theorem zd_S_answer_8 : decode zc_S_answer 8 = .ok (.invokevirtual 74, 3) := by decide +kernel
theorem zd_S_answer_11 : decode zc_S_answer 11 = .ok (.lreturn, 1) := by decide +kernel
theorem zd_S_ticks_0 : decode zc_S_ticks 0 = .ok (.aload_n 0, 1) := by decide +kernel
theorem zd_S_ticks_1 : decode zc_S_ticks 1 = .ok (.invokevirtual 71, 3) := by decide +kernel
theorem zd_S_ticks_4 : decode zc_S_ticks 4 = .ok (.iload_n 1, 1) := by decide +kernel
theorem zd_S_ticks_5 : decode zc_S_ticks 5 = .ok (.tableswitch 59 0 2 #[27, 35, 51], 27) := by decide +kernel
theorem zd_S_ticks_32 : decode zc_S_ticks 32 = .ok (.aload_n 0, 1) := by decide +kernel
theorem zd_S_ticks_33 : decode zc_S_ticks 33 = .ok (.getfield 23, 3) := by decide +kernel
theorem zd_S_ticks_36 : decode zc_S_ticks 36 = .ok (.invokevirtual 78, 3) := by decide +kernel
theorem zd_S_ticks_39 : decode zc_S_ticks 39 = .ok (.ireturn, 1) := by decide +kernel
theorem zd_S_ticks_40 : decode zc_S_ticks 40 = .ok (.aload_n 0, 1) := by decide +kernel
theorem zd_S_ticks_41 : decode zc_S_ticks 41 = .ok (.getfield 23, 3) := by decide +kernel
theorem zd_S_ticks_44 : decode zc_S_ticks 44 = .ok (.invokevirtual 81, 3) := by decide +kernel
theorem zd_S_ticks_47 : decode zc_S_ticks 47 = .ok (.aload_n 0, 1) := by decide +kernel
theorem zd_S_ticks_48 : decode zc_S_ticks 48 = .ok (.getfield 23, 3) := by decide +kernel
theorem zd_S_ticks_51 : decode zc_S_ticks 51 = .ok (.invokevirtual 78, 3) := by decide +kernel
theorem zd_S_ticks_54 : decode zc_S_ticks 54 = .ok (.isub, 1) := by decide +kernel
theorem zd_S_ticks_55 : decode zc_S_ticks 55 = .ok (.ireturn, 1) := by decide +kernel
theorem zd_S_ticks_56 : decode zc_S_ticks 56 = .ok (.aload_n 0, 1) := by decide +kernel
theorem zd_S_ticks_57 : decode zc_S_ticks 57 = .ok (.getfield 23, 3) := by decide +kernel
theorem zd_S_ticks_60 : decode zc_S_ticks 60 = .ok (.invokevirtual 81, 3) := by decide +kernel
theorem zd_S_ticks_63 : decode zc_S_ticks 63 = .ok (.ireturn, 1) := by decide +kernel
theorem zd_S_ticks_64 : decode zc_S_ticks 64 = .ok (.iconst (-1), 1) := by decide +kernel
theorem zd_S_ticks_65 : decode zc_S_ticks 65 = .ok (.ireturn, 1) := by decide +kernel
theorem zd_S_worked_0 : decode zc_S_worked 0 = .ok (.aload_n 0, 1) := by decide +kernel
theorem zd_S_worked_1 : decode zc_S_worked 1 = .ok (.invokevirtual 71, 3) := by decide +kernel
theorem zd_S_worked_4 : decode zc_S_worked 4 = .ok (.aload_n 0, 1) := by decide +kernel
theorem zd_S_worked_5 : decode zc_S_worked 5 = .ok (.getfield 23, 3) := by decide +kernel
theorem zd_S_worked_8 : decode zc_S_worked 8 = .ok (.iload_n 1, 1) := by decide +kernel
theorem zd_S_worked_9 : decode zc_S_worked 9 = .ok (.invokevirtual 84, 3) := by decide +kernel
theorem zd_S_worked_12 : decode zc_S_worked 12 = .ok (.ifCond .ne 13, 3) := by decide +kernel
theorem zd_S_worked_15 : decode zc_S_worked 15 = .ok (.new 87, 3) := by decide +kernel
theorem zd_S_worked_18 : decode zc_S_worked 18 = .ok (.dup, 1) := by decide +kernel
theorem zd_S_worked_19 : decode zc_S_worked 19 = .ok (.ldc 89, 2) := by decide +kernel
theorem zd_S_worked_21 : decode zc_S_worked 21 = .ok (.invokespecial 91, 3) := by decide +kernel
theorem zd_S_worked_24 : decode zc_S_worked 24 = .ok (.athrow, 1) := by decide +kernel
theorem zd_S_worked_25 : decode zc_S_worked 25 = .ok (.aload_n 0, 1) := by decide +kernel
theorem zd_S_worked_26 : decode zc_S_worked 26 = .ok (.getfield 23, 3) := by decide +kernel
theorem zd_S_worked_29 : decode zc_S_worked 29 = .ok (.iload_n 1, 1) := by decide +kernel
theorem zd_S_worked_30 : decode zc_S_worked 30 = .ok (.invokevirtual 92, 3) := by decide +kernel
theorem zd_S_worked_33 : decode zc_S_worked 33 = .ok (.ireturn, 1) := by decide +kernel
theorem zd_S_done_0 : decode zc_S_done 0 = .ok (.aload_n 0, 1) := by decide +kernel
theorem zd_S_done_1 : decode zc_S_done 1 = .ok (.invokevirtual 71, 3) := by decide +kernel
theorem zd_S_done_4 : decode zc_S_done 4 = .ok (.aload_n 0, 1) := by decide +kernel
theorem zd_S_done_5 : decode zc_S_done 5 = .ok (.getfield 23, 3) := by decide +kernel
theorem zd_S_done_8 : decode zc_S_done 8 = .ok (.iload_n 1, 1) := by decide +kernel
theorem zd_S_done_9 : decode zc_S_done 9 = .ok (.invokevirtual 96, 3) := by decide +kernel
theorem zd_S_done_12 : decode zc_S_done 12 = .ok (.ifCond .ne 13, 3) := by decide +kernel
theorem zd_S_done_15 : decode zc_S_done 15 = .ok (.new 87, 3) := by decide +kernel
theorem zd_S_done_18 : decode zc_S_done 18 = .ok (.dup, 1) := by decide +kernel
theorem zd_S_done_19 : decode zc_S_done 19 = .ok (.ldc 99, 2) := by decide +kernel
theorem zd_S_done_21 : decode zc_S_done 21 = .ok (.invokespecial 91, 3) := by decide +kernel
theorem zd_S_done_24 : decode zc_S_done 24 = .ok (.athrow, 1) := by decide +kernel
theorem zd_S_done_25 : decode zc_S_done 25 = .ok (.aload_n 0, 1) := by decide +kernel
theorem zd_S_done_26 : decode zc_S_done 26 = .ok (.getfield 23, 3) := by decide +kernel
theorem zd_S_done_29 : decode zc_S_done 29 = .ok (.iload_n 1, 1) := by decide +kernel
theorem zd_S_done_30 : decode zc_S_done 30 = .ok (.invokevirtual 101, 3) := by decide +kernel
theorem zd_S_done_33 : decode zc_S_done 33 = .ok (.ireturn, 1) := by decide +kernel
theorem zd_S_by_0 : decode zc_S_by 0 = .ok (.aload_n 0, 1) := by decide +kernel
theorem zd_S_by_1 : decode zc_S_by 1 = .ok (.invokevirtual 71, 3) := by decide +kernel
theorem zd_S_by_4 : decode zc_S_by 4 = .ok (.aload_n 0, 1) := by decide +kernel
theorem zd_S_by_5 : decode zc_S_by 5 = .ok (.iload_n 1, 1) := by decide +kernel
theorem zd_S_by_6 : decode zc_S_by 6 = .ok (.invokevirtual 31, 3) := by decide +kernel
theorem zd_S_by_9 : decode zc_S_by 9 = .ok (.aload_n 0, 1) := by decide +kernel
theorem zd_S_by_10 : decode zc_S_by 10 = .ok (.getfield 12, 3) := by decide +kernel
theorem zd_S_by_13 : decode zc_S_by 13 = .ok (.iload_n 1, 1) := by decide +kernel
theorem zd_S_by_14 : decode zc_S_by 14 = .ok (.invokevirtual 104, 3) := by decide +kernel
theorem zd_S_by_17 : decode zc_S_by 17 = .ok (.ifCond .eq 7, 3) := by decide +kernel
theorem zd_S_by_20 : decode zc_S_by 20 = .ok (.iconst (-1), 1) := by decide +kernel
theorem zd_S_by_21 : decode zc_S_by 21 = .ok (.goto 11, 3) := by decide +kernel
theorem zd_S_by_24 : decode zc_S_by 24 = .ok (.aload_n 0, 1) := by decide +kernel
theorem zd_S_by_25 : decode zc_S_by 25 = .ok (.getfield 23, 3) := by decide +kernel
theorem zd_S_by_28 : decode zc_S_by 28 = .ok (.iload_n 1, 1) := by decide +kernel
theorem zd_S_by_29 : decode zc_S_by 29 = .ok (.invokevirtual 107, 3) := by decide +kernel
theorem zd_S_by_32 : decode zc_S_by 32 = .ok (.ireturn, 1) := by decide +kernel
theorem zd_S_failed_0 : decode zc_S_failed 0 = .ok (.aload_n 0, 1) := by decide +kernel
theorem zd_S_failed_1 : decode zc_S_failed 1 = .ok (.invokevirtual 71, 3) := by decide +kernel
theorem zd_S_failed_4 : decode zc_S_failed 4 = .ok (.aload_n 0, 1) := by decide +kernel
theorem zd_S_failed_5 : decode zc_S_failed 5 = .ok (.iload_n 1, 1) := by decide +kernel
theorem zd_S_failed_6 : decode zc_S_failed 6 = .ok (.invokevirtual 31, 3) := by decide +kernel
theorem zd_S_failed_9 : decode zc_S_failed 9 = .ok (.aload_n 0, 1) := by decide +kernel
theorem zd_S_failed_10 : decode zc_S_failed 10 = .ok (.getfield 12, 3) := by decide +kernel
theorem zd_S_failed_13 : decode zc_S_failed 13 = .ok (.iload_n 1, 1) := by decide +kernel
theorem zd_S_failed_14 : decode zc_S_failed 14 = .ok (.invokevirtual 104, 3) := by decide +kernel
theorem zd_S_failed_17 : decode zc_S_failed 17 = .ok (.ifCond .eq 7, 3) := by decide +kernel
theorem zd_S_failed_20 : decode zc_S_failed 20 = .ok (.iconst 0, 1) := by decide +kernel
theorem zd_S_failed_21 : decode zc_S_failed 21 = .ok (.goto 11, 3) := by decide +kernel
theorem zd_S_failed_24 : decode zc_S_failed 24 = .ok (.aload_n 0, 1) := by decide +kernel
theorem zd_S_failed_25 : decode zc_S_failed 25 = .ok (.getfield 23, 3) := by decide +kernel
theorem zd_S_failed_28 : decode zc_S_failed 28 = .ok (.iload_n 1, 1) := by decide +kernel
theorem zd_S_failed_29 : decode zc_S_failed 29 = .ok (.invokevirtual 110, 3) := by decide +kernel
theorem zd_S_failed_32 : decode zc_S_failed 32 = .ok (.ireturn, 1) := by decide +kernel
theorem zd_S_at_0 : decode zc_S_at 0 = .ok (.aload_n 0, 1) := by decide +kernel
theorem zd_S_at_1 : decode zc_S_at 1 = .ok (.invokevirtual 71, 3) := by decide +kernel
theorem zd_S_at_4 : decode zc_S_at 4 = .ok (.aload_n 0, 1) := by decide +kernel
theorem zd_S_at_5 : decode zc_S_at 5 = .ok (.iload_n 1, 1) := by decide +kernel
theorem zd_S_at_6 : decode zc_S_at 6 = .ok (.invokevirtual 31, 3) := by decide +kernel
theorem zd_S_at_9 : decode zc_S_at 9 = .ok (.aload_n 0, 1) := by decide +kernel
theorem zd_S_at_10 : decode zc_S_at 10 = .ok (.getfield 12, 3) := by decide +kernel
theorem zd_S_at_13 : decode zc_S_at 13 = .ok (.iload_n 1, 1) := by decide +kernel
theorem zd_S_at_14 : decode zc_S_at 14 = .ok (.invokevirtual 104, 3) := by decide +kernel
theorem zd_S_at_17 : decode zc_S_at 17 = .ok (.ifCond .eq 7, 3) := by decide +kernel
theorem zd_S_at_20 : decode zc_S_at 20 = .ok (.iconst 0, 1) := by decide +kernel
theorem zd_S_at_21 : decode zc_S_at 21 = .ok (.goto 11, 3) := by decide +kernel
theorem zd_S_at_24 : decode zc_S_at 24 = .ok (.aload_n 0, 1) := by decide +kernel
theorem zd_S_at_25 : decode zc_S_at 25 = .ok (.getfield 23, 3) := by decide +kernel
theorem zd_S_at_28 : decode zc_S_at 28 = .ok (.iload_n 1, 1) := by decide +kernel
theorem zd_S_at_29 : decode zc_S_at 29 = .ok (.invokevirtual 113, 3) := by decide +kernel
theorem zd_S_at_32 : decode zc_S_at 32 = .ok (.ireturn, 1) := by decide +kernel
theorem zd_S_count_0 : decode zc_S_count 0 = .ok (.aload_n 0, 1) := by decide +kernel
theorem zd_S_count_1 : decode zc_S_count 1 = .ok (.getfield 12, 3) := by decide +kernel
theorem zd_S_count_4 : decode zc_S_count 4 = .ok (.invokevirtual 116, 3) := by decide +kernel
theorem zd_S_count_7 : decode zc_S_count 7 = .ok (.ireturn, 1) := by decide +kernel
theorem zd_S_needKnown_0 : decode zc_S_needKnown 0 = .ok (.aload_n 0, 1) := by decide +kernel
theorem zd_S_needKnown_1 : decode zc_S_needKnown 1 = .ok (.getfield 27, 3) := by decide +kernel
theorem zd_S_needKnown_4 : decode zc_S_needKnown 4 = .ok (.ifCond .ne 13, 3) := by decide +kernel
theorem zd_S_needKnown_7 : decode zc_S_needKnown 7 = .ok (.new 119, 3) := by decide +kernel
theorem zd_S_needKnown_10 : decode zc_S_needKnown 10 = .ok (.dup, 1) := by decide +kernel
theorem zd_S_needKnown_11 : decode zc_S_needKnown 11 = .ok (.ldc 121, 2) := by decide +kernel
theorem zd_S_needKnown_13 : decode zc_S_needKnown 13 = .ok (.invokespecial 123, 3) := by decide +kernel
theorem zd_S_needKnown_16 : decode zc_S_needKnown 16 = .ok (.athrow, 1) := by decide +kernel
theorem zd_S_needKnown_17 : decode zc_S_needKnown 17 = .ok (.return_, 1) := by decide +kernel
theorem zd_S_needShare_0 : decode zc_S_needShare 0 = .ok (.aload_n 0, 1) := by decide +kernel
theorem zd_S_needShare_1 : decode zc_S_needShare 1 = .ok (.getfield 12, 3) := by decide +kernel
theorem zd_S_needShare_4 : decode zc_S_needShare 4 = .ok (.iload_n 1, 1) := by decide +kernel
theorem zd_S_needShare_5 : decode zc_S_needShare 5 = .ok (.invokevirtual 124, 3) := by decide +kernel
theorem zd_S_needShare_8 : decode zc_S_needShare 8 = .ok (.ifCond .ne 13, 3) := by decide +kernel
theorem zd_S_needShare_11 : decode zc_S_needShare 11 = .ok (.new 87, 3) := by decide +kernel
theorem zd_S_needShare_14 : decode zc_S_needShare 14 = .ok (.dup, 1) := by decide +kernel
theorem zd_S_needShare_15 : decode zc_S_needShare 15 = .ok (.ldc 127, 2) := by decide +kernel
theorem zd_S_needShare_17 : decode zc_S_needShare 17 = .ok (.invokespecial 91, 3) := by decide +kernel
theorem zd_S_needShare_20 : decode zc_S_needShare 20 = .ok (.athrow, 1) := by decide +kernel
theorem zd_S_needShare_21 : decode zc_S_needShare 21 = .ok (.return_, 1) := by decide +kernel
theorem zd_S_forgetIf_0 : decode zc_S_forgetIf 0 = .ok (.iload_n 1, 1) := by decide +kernel
theorem zd_S_forgetIf_1 : decode zc_S_forgetIf 1 = .ok (.ifCond .eq 8, 3) := by decide +kernel
theorem zd_S_forgetIf_4 : decode zc_S_forgetIf 4 = .ok (.aload_n 0, 1) := by decide +kernel
theorem zd_S_forgetIf_5 : decode zc_S_forgetIf 5 = .ok (.iconst 0, 1) := by decide +kernel
theorem zd_S_forgetIf_6 : decode zc_S_forgetIf 6 = .ok (.putfield 27, 3) := by decide +kernel
theorem zd_S_forgetIf_9 : decode zc_S_forgetIf 9 = .ok (.return_, 1) := by decide +kernel
end
section
theorem zd_M_init_0 : decode zc_M_init 0 = .ok (.aload_n 0, 1) := by decide +kernel
theorem zd_M_init_1 : decode zc_M_init 1 = .ok (.invokespecial 1, 3) := by decide +kernel
theorem zd_M_init_4 : decode zc_M_init 4 = .ok (.aload_n 0, 1) := by decide +kernel
theorem zd_M_init_5 : decode zc_M_init 5 = .ok (.bipush 16, 2) := by decide +kernel
theorem zd_M_init_7 : decode zc_M_init 7 = .ok (.newarray .int, 2) := by decide +kernel
theorem zd_M_init_9 : decode zc_M_init 9 = .ok (.putfield 7, 3) := by decide +kernel
theorem zd_M_init_12 : decode zc_M_init 12 = .ok (.aload_n 0, 1) := by decide +kernel
theorem zd_M_init_13 : decode zc_M_init 13 = .ok (.bipush 16, 2) := by decide +kernel
theorem zd_M_init_15 : decode zc_M_init 15 = .ok (.newarray .int, 2) := by decide +kernel
theorem zd_M_init_17 : decode zc_M_init 17 = .ok (.putfield 13, 3) := by decide +kernel
theorem zd_M_init_20 : decode zc_M_init 20 = .ok (.aload_n 0, 1) := by decide +kernel
theorem zd_M_init_21 : decode zc_M_init 21 = .ok (.bipush 16, 2) := by decide +kernel
theorem zd_M_init_23 : decode zc_M_init 23 = .ok (.newarray .long, 2) := by decide +kernel
theorem zd_M_init_25 : decode zc_M_init 25 = .ok (.putfield 16, 3) := by decide +kernel
theorem zd_M_init_28 : decode zc_M_init 28 = .ok (.aload_n 0, 1) := by decide +kernel
theorem zd_M_init_29 : decode zc_M_init 29 = .ok (.bipush 16, 2) := by decide +kernel
theorem zd_M_init_31 : decode zc_M_init 31 = .ok (.newarray .boolean, 2) := by decide +kernel
theorem zd_M_init_33 : decode zc_M_init 33 = .ok (.putfield 20, 3) := by decide +kernel
theorem zd_M_init_36 : decode zc_M_init 36 = .ok (.aload_n 0, 1) := by decide +kernel
theorem zd_M_init_37 : decode zc_M_init 37 = .ok (.bipush 16, 2) := by decide +kernel
theorem zd_M_init_39 : decode zc_M_init 39 = .ok (.newarray .int, 2) := by decide +kernel
theorem zd_M_init_41 : decode zc_M_init 41 = .ok (.putfield 24, 3) := by decide +kernel
theorem zd_M_init_44 : decode zc_M_init 44 = .ok (.aload_n 0, 1) := by decide +kernel
theorem zd_M_init_45 : decode zc_M_init 45 = .ok (.bipush 16, 2) := by decide +kernel
theorem zd_M_init_47 : decode zc_M_init 47 = .ok (.newarray .int, 2) := by decide +kernel
theorem zd_M_init_49 : decode zc_M_init 49 = .ok (.putfield 27, 3) := by decide +kernel
theorem zd_M_init_52 : decode zc_M_init 52 = .ok (.aload_n 0, 1) := by decide +kernel
theorem zd_M_init_53 : decode zc_M_init 53 = .ok (.bipush 16, 2) := by decide +kernel
theorem zd_M_init_55 : decode zc_M_init 55 = .ok (.newarray .int, 2) := by decide +kernel
theorem zd_M_init_57 : decode zc_M_init 57 = .ok (.putfield 30, 3) := by decide +kernel
theorem zd_M_init_60 : decode zc_M_init 60 = .ok (.aload_n 0, 1) := by decide +kernel
theorem zd_M_init_61 : decode zc_M_init 61 = .ok (.bipush 16, 2) := by decide +kernel
theorem zd_M_init_63 : decode zc_M_init 63 = .ok (.newarray .int, 2) := by decide +kernel
theorem zd_M_init_65 : decode zc_M_init 65 = .ok (.putfield 33, 3) := by decide +kernel
theorem zd_M_init_68 : decode zc_M_init 68 = .ok (.aload_n 0, 1) := by decide +kernel
theorem zd_M_init_69 : decode zc_M_init 69 = .ok (.bipush 16, 2) := by decide +kernel
theorem zd_M_init_71 : decode zc_M_init 71 = .ok (.newarray .int, 2) := by decide +kernel
theorem zd_M_init_73 : decode zc_M_init 73 = .ok (.putfield 36, 3) := by decide +kernel
theorem zd_M_init_76 : decode zc_M_init 76 = .ok (.aload_n 0, 1) := by decide +kernel
theorem zd_M_init_77 : decode zc_M_init 77 = .ok (.bipush 16, 2) := by decide +kernel
theorem zd_M_init_79 : decode zc_M_init 79 = .ok (.newarray .int, 2) := by decide +kernel
theorem zd_M_init_81 : decode zc_M_init 81 = .ok (.putfield 39, 3) := by decide +kernel
theorem zd_M_init_84 : decode zc_M_init 84 = .ok (.aload_n 0, 1) := by decide +kernel
theorem zd_M_init_85 : decode zc_M_init 85 = .ok (.iload_n 1, 1) := by decide +kernel
theorem zd_M_init_86 : decode zc_M_init 86 = .ok (.iconst 1, 1) := by decide +kernel
theorem zd_M_init_87 : decode zc_M_init 87 = .ok (.if_icmp .ge 7, 3) := by decide +kernel
theorem zd_M_init_90 : decode zc_M_init 90 = .ok (.iconst 1, 1) := by decide +kernel
theorem zd_M_init_91 : decode zc_M_init 91 = .ok (.goto 15, 3) := by decide +kernel
theorem zd_M_init_94 : decode zc_M_init 94 = .ok (.iload_n 1, 1) := by decide +kernel
theorem zd_M_init_95 : decode zc_M_init 95 = .ok (.bipush 16, 2) := by decide +kernel
theorem zd_M_init_97 : decode zc_M_init 97 = .ok (.if_icmp .le 8, 3) := by decide +kernel
theorem zd_M_init_100 : decode zc_M_init 100 = .ok (.bipush 16, 2) := by decide +kernel
theorem zd_M_init_102 : decode zc_M_init 102 = .ok (.goto 4, 3) := by decide +kernel
theorem zd_M_init_105 : decode zc_M_init 105 = .ok (.iload_n 1, 1) := by decide +kernel
theorem zd_M_init_106 : decode zc_M_init 106 = .ok (.putfield 42, 3) := by decide +kernel
theorem zd_M_init_109 : decode zc_M_init 109 = .ok (.iconst 0, 1) := by decide +kernel
theorem zd_M_init_110 : decode zc_M_init 110 = .ok (.istore_n 2, 1) := by decide +kernel
theorem zd_M_init_111 : decode zc_M_init 111 = .ok (.iload_n 2, 1) := by decide +kernel
theorem zd_M_init_112 : decode zc_M_init 112 = .ok (.bipush 16, 2) := by decide +kernel
theorem zd_M_init_114 : decode zc_M_init 114 = .ok (.if_icmp .ge 16, 3) := by decide +kernel
theorem zd_M_init_117 : decode zc_M_init 117 = .ok (.aload_n 0, 1) := by decide +kernel
theorem zd_M_init_118 : decode zc_M_init 118 = .ok (.getfield 7, 3) := by decide +kernel
theorem zd_M_init_121 : decode zc_M_init 121 = .ok (.iload_n 2, 1) := by decide +kernel
theorem zd_M_init_122 : decode zc_M_init 122 = .ok (.iconst 1, 1) := by decide +kernel
theorem zd_M_init_123 : decode zc_M_init 123 = .ok (.iastore, 1) := by decide +kernel
theorem zd_M_init_124 : decode zc_M_init 124 = .ok (.iinc 2 1, 3) := by decide +kernel
theorem zd_M_init_127 : decode zc_M_init 127 = .ok (.goto (-16), 3) := by decide +kernel
theorem zd_M_init_130 : decode zc_M_init 130 = .ok (.return_, 1) := by decide +kernel
theorem zd_M_thrown_0 : decode zc_M_thrown 0 = .ok (.aload_n 0, 1) := by decide +kernel
theorem zd_M_thrown_1 : decode zc_M_thrown 1 = .ok (.getfield 46, 3) := by decide +kernel
theorem zd_M_thrown_4 : decode zc_M_thrown 4 = .ok (.ireturn, 1) := by decide +kernel
theorem zd_M_fails_0 : decode zc_M_fails 0 = .ok (.aload_n 0, 1) := by decide +kernel
theorem zd_M_fails_1 : decode zc_M_fails 1 = .ok (.iload_n 1, 1) := by decide +kernel
theorem zd_M_fails_2 : decode zc_M_fails 2 = .ok (.ifCond .eq 7, 3) := by decide +kernel
theorem zd_M_fails_5 : decode zc_M_fails 5 = .ok (.iconst 1, 1) := by decide +kernel
theorem zd_M_fails_6 : decode zc_M_fails 6 = .ok (.goto 12, 3) := by decide +kernel
theorem zd_M_fails_9 : decode zc_M_fails 9 = .ok (.iload_n 2, 1) := by decide +kernel
theorem zd_M_fails_10 : decode zc_M_fails 10 = .ok (.ifCond .eq 7, 3) := by decide +kernel
theorem zd_M_fails_13 : decode zc_M_fails 13 = .ok (.iconst 2, 1) := by decide +kernel
theorem zd_M_fails_14 : decode zc_M_fails 14 = .ok (.goto 4, 3) := by decide +kernel
theorem zd_M_fails_17 : decode zc_M_fails 17 = .ok (.iconst 0, 1) := by decide +kernel
theorem zd_M_fails_18 : decode zc_M_fails 18 = .ok (.putfield 46, 3) := by decide +kernel
theorem zd_M_fails_21 : decode zc_M_fails 21 = .ok (.aload_n 0, 1) := by decide +kernel
theorem zd_M_fails_22 : decode zc_M_fails 22 = .ok (.getfield 46, 3) := by decide +kernel
theorem zd_M_fails_25 : decode zc_M_fails 25 = .ok (.ifCond .le 7, 3) := by decide +kernel
theorem zd_M_fails_28 : decode zc_M_fails 28 = .ok (.iconst 1, 1) := by decide +kernel
theorem zd_M_fails_29 : decode zc_M_fails 29 = .ok (.goto 4, 3) := by decide +kernel
theorem zd_M_fails_32 : decode zc_M_fails 32 = .ok (.iconst 0, 1) := by decide +kernel
theorem zd_M_fails_33 : decode zc_M_fails 33 = .ok (.ireturn, 1) := by decide +kernel
theorem zd_M_isShare_0 : decode zc_M_isShare 0 = .ok (.iload_n 1, 1) := by decide +kernel
theorem zd_M_isShare_1 : decode zc_M_isShare 1 = .ok (.ifCond .lt 15, 3) := by decide +kernel
theorem zd_M_isShare_4 : decode zc_M_isShare 4 = .ok (.iload_n 1, 1) := by decide +kernel
theorem zd_M_isShare_5 : decode zc_M_isShare 5 = .ok (.aload_n 0, 1) := by decide +kernel
theorem zd_M_isShare_6 : decode zc_M_isShare 6 = .ok (.getfield 42, 3) := by decide +kernel
theorem zd_M_isShare_9 : decode zc_M_isShare 9 = .ok (.if_icmp .ge 7, 3) := by decide +kernel
theorem zd_M_isShare_12 : decode zc_M_isShare 12 = .ok (.iconst 1, 1) := by decide +kernel
theorem zd_M_isShare_13 : decode zc_M_isShare 13 = .ok (.goto 4, 3) := by decide +kernel
theorem zd_M_isShare_16 : decode zc_M_isShare 16 = .ok (.iconst 0, 1) := by decide +kernel
theorem zd_M_isShare_17 : decode zc_M_isShare 17 = .ok (.ireturn, 1) := by decide +kernel
theorem zd_M_value_0 : decode zc_M_value 0 = .ok (.aload_n 0, 1) := by decide +kernel
theorem zd_M_value_1 : decode zc_M_value 1 = .ok (.aload_n 0, 1) := by decide +kernel
theorem zd_M_value_2 : decode zc_M_value 2 = .ok (.iload_n 1, 1) := by decide +kernel
theorem zd_M_value_3 : decode zc_M_value 3 = .ok (.invokevirtual 49, 3) := by decide +kernel
theorem zd_M_value_6 : decode zc_M_value 6 = .ok (.ifCond .ne 7, 3) := by decide +kernel
theorem zd_M_value_9 : decode zc_M_value 9 = .ok (.iconst 1, 1) := by decide +kernel
theorem zd_M_value_10 : decode zc_M_value 10 = .ok (.goto 4, 3) := by decide +kernel
theorem zd_M_value_13 : decode zc_M_value 13 = .ok (.iconst 0, 1) := by decide +kernel
theorem zd_M_value_14 : decode zc_M_value 14 = .ok (.iload_n 2, 1) := by decide +kernel
theorem zd_M_value_15 : decode zc_M_value 15 = .ok (.iconst 1, 1) := by decide +kernel
theorem zd_M_value_16 : decode zc_M_value 16 = .ok (.if_icmp .lt 9, 3) := by decide +kernel
theorem zd_M_value_19 : decode zc_M_value 19 = .ok (.iload_n 2, 1) := by decide +kernel
theorem zd_M_value_20 : decode zc_M_value 20 = .ok (.bipush 100, 2) := by decide +kernel
theorem zd_M_value_22 : decode zc_M_value 22 = .ok (.if_icmp .le 7, 3) := by decide +kernel
theorem zd_M_value_25 : decode zc_M_value 25 = .ok (.iconst 1, 1) := by decide +kernel
theorem zd_M_value_26 : decode zc_M_value 26 = .ok (.goto 4, 3) := by decide +kernel
theorem zd_M_value_29 : decode zc_M_value 29 = .ok (.iconst 0, 1) := by decide +kernel
theorem zd_M_value_30 : decode zc_M_value 30 = .ok (.invokevirtual 53, 3) := by decide +kernel
theorem zd_M_value_33 : decode zc_M_value 33 = .ok (.ifCond .eq 5, 3) := by decide +kernel
theorem zd_M_value_36 : decode zc_M_value 36 = .ok (.iconst 0, 1) := by decide +kernel
theorem zd_M_value_37 : decode zc_M_value 37 = .ok (.ireturn, 1) := by decide +kernel
theorem zd_M_value_38 : decode zc_M_value 38 = .ok (.aload_n 0, 1) := by decide +kernel
theorem zd_M_value_39 : decode zc_M_value 39 = .ok (.getfield 7, 3) := by decide +kernel
theorem zd_M_value_42 : decode zc_M_value 42 = .ok (.iload_n 1, 1) := by decide +kernel
theorem zd_M_value_43 : decode zc_M_value 43 = .ok (.iaload, 1) := by decide +kernel
theorem zd_M_value_44 : decode zc_M_value 44 = .ok (.iload_n 2, 1) := by decide +kernel
theorem zd_M_value_45 : decode zc_M_value 45 = .ok (.if_icmp .ne 25, 3) := by decide +kernel
theorem zd_M_value_48 : decode zc_M_value 48 = .ok (.aload_n 0, 1) := by decide +kernel
theorem zd_M_value_49 : decode zc_M_value 49 = .ok (.getfield 16, 3) := by decide +kernel
theorem zd_M_value_52 : decode zc_M_value 52 = .ok (.iload_n 1, 1) := by decide +kernel
theorem zd_M_value_53 : decode zc_M_value 53 = .ok (.laload, 1) := by decide +kernel
theorem zd_M_value_54 : decode zc_M_value 54 = .ok (.lload_n 3, 1) := by decide +kernel
theorem zd_M_value_55 : decode zc_M_value 55 = .ok (.lcmp, 1) := by decide +kernel
theorem zd_M_value_56 : decode zc_M_value 56 = .ok (.ifCond .ne 14, 3) := by decide +kernel
theorem zd_M_value_59 : decode zc_M_value 59 = .ok (.aload_n 0, 1) := by decide +kernel
theorem zd_M_value_60 : decode zc_M_value 60 = .ok (.getfield 20, 3) := by decide +kernel
theorem zd_M_value_63 : decode zc_M_value 63 = .ok (.iload_n 1, 1) := by decide +kernel
theorem zd_M_value_64 : decode zc_M_value 64 = .ok (.baload, 1) := by decide +kernel
theorem zd_M_value_65 : decode zc_M_value 65 = .ok (.iload 5, 2) := by decide +kernel
theorem zd_M_value_67 : decode zc_M_value 67 = .ok (.if_icmp .eq 7, 3) := by decide +kernel
theorem zd_M_value_70 : decode zc_M_value 70 = .ok (.iconst 1, 1) := by decide +kernel
theorem zd_M_value_71 : decode zc_M_value 71 = .ok (.goto 4, 3) := by decide +kernel
theorem zd_M_value_74 : decode zc_M_value 74 = .ok (.iconst 0, 1) := by decide +kernel
theorem zd_M_value_75 : decode zc_M_value 75 = .ok (.istore 6, 2) := by decide +kernel
theorem zd_M_value_77 : decode zc_M_value 77 = .ok (.aload_n 0, 1) := by decide +kernel
theorem zd_M_value_78 : decode zc_M_value 78 = .ok (.getfield 7, 3) := by decide +kernel
theorem zd_M_value_81 : decode zc_M_value 81 = .ok (.iload_n 1, 1) := by decide +kernel
theorem zd_M_value_82 : decode zc_M_value 82 = .ok (.iload_n 2, 1) := by decide +kernel
theorem zd_M_value_83 : decode zc_M_value 83 = .ok (.iastore, 1) := by decide +kernel
theorem zd_M_value_84 : decode zc_M_value 84 = .ok (.aload_n 0, 1) := by decide +kernel
theorem zd_M_value_85 : decode zc_M_value 85 = .ok (.getfield 16, 3) := by decide +kernel
theorem zd_M_value_88 : decode zc_M_value 88 = .ok (.iload_n 1, 1) := by decide +kernel
theorem zd_M_value_89 : decode zc_M_value 89 = .ok (.lload_n 3, 1) := by decide +kernel
theorem zd_M_value_90 : decode zc_M_value 90 = .ok (.lastore, 1) := by decide +kernel
theorem zd_M_value_91 : decode zc_M_value 91 = .ok (.aload_n 0, 1) := by decide +kernel
theorem zd_M_value_92 : decode zc_M_value 92 = .ok (.getfield 20, 3) := by decide +kernel
theorem zd_M_value_95 : decode zc_M_value 95 = .ok (.iload_n 1, 1) := by decide +kernel
theorem zd_M_value_96 : decode zc_M_value 96 = .ok (.iload 5, 2) := by decide +kernel
theorem zd_M_value_98 : decode zc_M_value 98 = .ok (.bastore, 1) := by decide +kernel
theorem zd_M_value_99 : decode zc_M_value 99 = .ok (.aload_n 0, 1) := by decide +kernel
theorem zd_M_value_100 : decode zc_M_value 100 = .ok (.aload_n 0, 1) := by decide +kernel
theorem zd_M_value_101 : decode zc_M_value 101 = .ok (.getfield 57, 3) := by decide +kernel
theorem zd_M_value_104 : decode zc_M_value 104 = .ok (.ifCond .eq 12, 3) := by decide +kernel
theorem zd_M_value_107 : decode zc_M_value 107 = .ok (.iload 6, 2) := by decide +kernel
theorem zd_M_value_109 : decode zc_M_value 109 = .ok (.ifCond .ne 7, 3) := by decide +kernel
theorem zd_M_value_112 : decode zc_M_value 112 = .ok (.iconst 1, 1) := by decide +kernel
theorem zd_M_value_113 : decode zc_M_value 113 = .ok (.goto 4, 3) := by decide +kernel
theorem zd_M_value_116 : decode zc_M_value 116 = .ok (.iconst 0, 1) := by decide +kernel
theorem zd_M_value_117 : decode zc_M_value 117 = .ok (.putfield 57, 3) := by decide +kernel
theorem zd_M_value_120 : decode zc_M_value 120 = .ok (.iload 6, 2) := by decide +kernel
theorem zd_M_value_122 : decode zc_M_value 122 = .ok (.ireturn, 1) := by decide +kernel
theorem zd_M_faults_0 : decode zc_M_faults 0 = .ok (.aload_n 0, 1) := by decide +kernel
theorem zd_M_faults_1 : decode zc_M_faults 1 = .ok (.aload_n 0, 1) := by decide +kernel
theorem zd_M_faults_2 : decode zc_M_faults 2 = .ok (.iload_n 1, 1) := by decide +kernel
theorem zd_M_faults_3 : decode zc_M_faults 3 = .ok (.invokevirtual 49, 3) := by decide +kernel
theorem zd_M_faults_6 : decode zc_M_faults 6 = .ok (.ifCond .ne 7, 3) := by decide +kernel
theorem zd_M_faults_9 : decode zc_M_faults 9 = .ok (.iconst 1, 1) := by decide +kernel
theorem zd_M_faults_10 : decode zc_M_faults 10 = .ok (.goto 4, 3) := by decide +kernel
theorem zd_M_faults_13 : decode zc_M_faults 13 = .ok (.iconst 0, 1) := by decide +kernel
theorem zd_M_faults_14 : decode zc_M_faults 14 = .ok (.iload_n 2, 1) := by decide +kernel
theorem zd_M_faults_15 : decode zc_M_faults 15 = .ok (.ifCond .lt 8, 3) := by decide +kernel
theorem zd_M_faults_18 : decode zc_M_faults 18 = .ok (.iload_n 2, 1) := by decide +kernel
theorem zd_M_faults_19 : decode zc_M_faults 19 = .ok (.iconst 3, 1) := by decide +kernel
theorem zd_M_faults_20 : decode zc_M_faults 20 = .ok (.if_icmp .le 7, 3) := by decide +kernel
theorem zd_M_faults_23 : decode zc_M_faults 23 = .ok (.iconst 1, 1) := by decide +kernel
theorem zd_M_faults_24 : decode zc_M_faults 24 = .ok (.goto 4, 3) := by decide +kernel
theorem zd_M_faults_27 : decode zc_M_faults 27 = .ok (.iconst 0, 1) := by decide +kernel
theorem zd_M_faults_28 : decode zc_M_faults 28 = .ok (.invokevirtual 53, 3) := by decide +kernel
theorem zd_M_faults_31 : decode zc_M_faults 31 = .ok (.ifCond .eq 5, 3) := by decide +kernel
theorem zd_M_faults_34 : decode zc_M_faults 34 = .ok (.iconst 0, 1) := by decide +kernel
theorem zd_M_faults_35 : decode zc_M_faults 35 = .ok (.ireturn, 1) := by decide +kernel
theorem zd_M_faults_36 : decode zc_M_faults 36 = .ok (.aload_n 0, 1) := by decide +kernel
theorem zd_M_faults_37 : decode zc_M_faults 37 = .ok (.getfield 13, 3) := by decide +kernel
theorem zd_M_faults_40 : decode zc_M_faults 40 = .ok (.iload_n 1, 1) := by decide +kernel
theorem zd_M_faults_41 : decode zc_M_faults 41 = .ok (.iaload, 1) := by decide +kernel
theorem zd_M_faults_42 : decode zc_M_faults 42 = .ok (.iload_n 2, 1) := by decide +kernel
theorem zd_M_faults_43 : decode zc_M_faults 43 = .ok (.if_icmp .eq 7, 3) := by decide +kernel
theorem zd_M_faults_46 : decode zc_M_faults 46 = .ok (.iconst 1, 1) := by decide +kernel
theorem zd_M_faults_47 : decode zc_M_faults 47 = .ok (.goto 4, 3) := by decide +kernel
theorem zd_M_faults_50 : decode zc_M_faults 50 = .ok (.iconst 0, 1) := by decide +kernel
theorem zd_M_faults_51 : decode zc_M_faults 51 = .ok (.istore_n 3, 1) := by decide +kernel
theorem zd_M_faults_52 : decode zc_M_faults 52 = .ok (.aload_n 0, 1) := by decide +kernel
theorem zd_M_faults_53 : decode zc_M_faults 53 = .ok (.getfield 13, 3) := by decide +kernel
theorem zd_M_faults_56 : decode zc_M_faults 56 = .ok (.iload_n 1, 1) := by decide +kernel
theorem zd_M_faults_57 : decode zc_M_faults 57 = .ok (.iload_n 2, 1) := by decide +kernel
theorem zd_M_faults_58 : decode zc_M_faults 58 = .ok (.iastore, 1) := by decide +kernel
theorem zd_M_faults_59 : decode zc_M_faults 59 = .ok (.aload_n 0, 1) := by decide +kernel
theorem zd_M_faults_60 : decode zc_M_faults 60 = .ok (.aload_n 0, 1) := by decide +kernel
theorem zd_M_faults_61 : decode zc_M_faults 61 = .ok (.getfield 57, 3) := by decide +kernel
theorem zd_M_faults_64 : decode zc_M_faults 64 = .ok (.ifCond .eq 11, 3) := by decide +kernel
theorem zd_M_faults_67 : decode zc_M_faults 67 = .ok (.iload_n 3, 1) := by decide +kernel
theorem zd_M_faults_68 : decode zc_M_faults 68 = .ok (.ifCond .ne 7, 3) := by decide +kernel
theorem zd_M_faults_71 : decode zc_M_faults 71 = .ok (.iconst 1, 1) := by decide +kernel
theorem zd_M_faults_72 : decode zc_M_faults 72 = .ok (.goto 4, 3) := by decide +kernel
theorem zd_M_faults_75 : decode zc_M_faults 75 = .ok (.iconst 0, 1) := by decide +kernel
theorem zd_M_faults_76 : decode zc_M_faults 76 = .ok (.putfield 57, 3) := by decide +kernel
theorem zd_M_faults_79 : decode zc_M_faults 79 = .ok (.iload_n 3, 1) := by decide +kernel
theorem zd_M_faults_80 : decode zc_M_faults 80 = .ok (.ireturn, 1) := by decide +kernel
theorem zd_M_isBehind_0 : decode zc_M_isBehind 0 = .ok (.iconst 0, 1) := by decide +kernel
theorem zd_M_isBehind_1 : decode zc_M_isBehind 1 = .ok (.istore_n 2, 1) := by decide +kernel
theorem zd_M_isBehind_2 : decode zc_M_isBehind 2 = .ok (.iconst 0, 1) := by decide +kernel
theorem zd_M_isBehind_3 : decode zc_M_isBehind 3 = .ok (.istore_n 3, 1) := by decide +kernel
theorem zd_M_isBehind_4 : decode zc_M_isBehind 4 = .ok (.iload_n 3, 1) := by decide +kernel
theorem zd_M_isBehind_5 : decode zc_M_isBehind 5 = .ok (.iload_n 1, 1) := by decide +kernel
theorem zd_M_isBehind_6 : decode zc_M_isBehind 6 = .ok (.if_icmp .ge 37, 3) := by decide +kernel
theorem zd_M_isBehind_9 : decode zc_M_isBehind 9 = .ok (.iload_n 2, 1) := by decide +kernel
theorem zd_M_isBehind_10 : decode zc_M_isBehind 10 = .ok (.ifCond .ne 21, 3) := by decide +kernel
theorem zd_M_isBehind_13 : decode zc_M_isBehind 13 = .ok (.aload_n 0, 1) := by decide +kernel
theorem zd_M_isBehind_14 : decode zc_M_isBehind 14 = .ok (.getfield 20, 3) := by decide +kernel
theorem zd_M_isBehind_17 : decode zc_M_isBehind 17 = .ok (.iload_n 3, 1) := by decide +kernel
theorem zd_M_isBehind_18 : decode zc_M_isBehind 18 = .ok (.baload, 1) := by decide +kernel
theorem zd_M_isBehind_19 : decode zc_M_isBehind 19 = .ok (.ifCond .eq 16, 3) := by decide +kernel
theorem zd_M_isBehind_22 : decode zc_M_isBehind 22 = .ok (.aload_n 0, 1) := by decide +kernel
theorem zd_M_isBehind_23 : decode zc_M_isBehind 23 = .ok (.getfield 27, 3) := by decide +kernel
theorem zd_M_isBehind_26 : decode zc_M_isBehind 26 = .ok (.iload_n 3, 1) := by decide +kernel
theorem zd_M_isBehind_27 : decode zc_M_isBehind 27 = .ok (.iaload, 1) := by decide +kernel
theorem zd_M_isBehind_28 : decode zc_M_isBehind 28 = .ok (.ifCond .le 7, 3) := by decide +kernel
theorem zd_M_isBehind_31 : decode zc_M_isBehind 31 = .ok (.iconst 1, 1) := by decide +kernel
theorem zd_M_isBehind_32 : decode zc_M_isBehind 32 = .ok (.goto 4, 3) := by decide +kernel
theorem zd_M_isBehind_35 : decode zc_M_isBehind 35 = .ok (.iconst 0, 1) := by decide +kernel
theorem zd_M_isBehind_36 : decode zc_M_isBehind 36 = .ok (.istore_n 2, 1) := by decide +kernel
theorem zd_M_isBehind_37 : decode zc_M_isBehind 37 = .ok (.iinc 3 1, 3) := by decide +kernel
theorem zd_M_isBehind_40 : decode zc_M_isBehind 40 = .ok (.goto (-36), 3) := by decide +kernel
theorem zd_M_isBehind_43 : decode zc_M_isBehind 43 = .ok (.iload_n 2, 1) := by decide +kernel
theorem zd_M_isBehind_44 : decode zc_M_isBehind 44 = .ok (.ireturn, 1) := by decide +kernel
theorem zd_M_isHeld_0 : decode zc_M_isHeld 0 = .ok (.iconst 0, 1) := by decide +kernel
theorem zd_M_isHeld_1 : decode zc_M_isHeld 1 = .ok (.istore_n 2, 1) := by decide +kernel
theorem zd_M_isHeld_2 : decode zc_M_isHeld 2 = .ok (.iconst 0, 1) := by decide +kernel
theorem zd_M_isHeld_3 : decode zc_M_isHeld 3 = .ok (.istore_n 3, 1) := by decide +kernel
theorem zd_M_isHeld_4 : decode zc_M_isHeld 4 = .ok (.iload_n 3, 1) := by decide +kernel
theorem zd_M_isHeld_5 : decode zc_M_isHeld 5 = .ok (.aload_n 0, 1) := by decide +kernel
theorem zd_M_isHeld_6 : decode zc_M_isHeld 6 = .ok (.getfield 61, 3) := by decide +kernel
theorem zd_M_isHeld_9 : decode zc_M_isHeld 9 = .ok (.if_icmp .ge 29, 3) := by decide +kernel
theorem zd_M_isHeld_12 : decode zc_M_isHeld 12 = .ok (.iload_n 2, 1) := by decide +kernel
theorem zd_M_isHeld_13 : decode zc_M_isHeld 13 = .ok (.ifCond .ne 13, 3) := by decide +kernel
theorem zd_M_isHeld_16 : decode zc_M_isHeld 16 = .ok (.aload_n 0, 1) := by decide +kernel
theorem zd_M_isHeld_17 : decode zc_M_isHeld 17 = .ok (.getfield 33, 3) := by decide +kernel
theorem zd_M_isHeld_20 : decode zc_M_isHeld 20 = .ok (.iload_n 3, 1) := by decide +kernel
theorem zd_M_isHeld_21 : decode zc_M_isHeld 21 = .ok (.iaload, 1) := by decide +kernel
theorem zd_M_isHeld_22 : decode zc_M_isHeld 22 = .ok (.iload_n 1, 1) := by decide +kernel
theorem zd_M_isHeld_23 : decode zc_M_isHeld 23 = .ok (.if_icmp .ne 7, 3) := by decide +kernel
theorem zd_M_isHeld_26 : decode zc_M_isHeld 26 = .ok (.iconst 1, 1) := by decide +kernel
theorem zd_M_isHeld_27 : decode zc_M_isHeld 27 = .ok (.goto 4, 3) := by decide +kernel
theorem zd_M_isHeld_30 : decode zc_M_isHeld 30 = .ok (.iconst 0, 1) := by decide +kernel
theorem zd_M_isHeld_31 : decode zc_M_isHeld 31 = .ok (.istore_n 2, 1) := by decide +kernel
theorem zd_M_isHeld_32 : decode zc_M_isHeld 32 = .ok (.iinc 3 1, 3) := by decide +kernel
theorem zd_M_isHeld_35 : decode zc_M_isHeld 35 = .ok (.goto (-31), 3) := by decide +kernel
theorem zd_M_isHeld_38 : decode zc_M_isHeld 38 = .ok (.iload_n 2, 1) := by decide +kernel
theorem zd_M_isHeld_39 : decode zc_M_isHeld 39 = .ok (.ireturn, 1) := by decide +kernel
theorem zd_M_waits_0 : decode zc_M_waits 0 = .ok (.iconst 0, 1) := by decide +kernel
theorem zd_M_waits_1 : decode zc_M_waits 1 = .ok (.istore_n 1, 1) := by decide +kernel
theorem zd_M_waits_2 : decode zc_M_waits 2 = .ok (.iload_n 1, 1) := by decide +kernel
theorem zd_M_waits_3 : decode zc_M_waits 3 = .ok (.aload_n 0, 1) := by decide +kernel
theorem zd_M_waits_4 : decode zc_M_waits 4 = .ok (.getfield 42, 3) := by decide +kernel
theorem zd_M_waits_7 : decode zc_M_waits 7 = .ok (.if_icmp .ge 36, 3) := by decide +kernel
theorem zd_M_waits_10 : decode zc_M_waits 10 = .ok (.aload_n 0, 1) := by decide +kernel
theorem zd_M_waits_11 : decode zc_M_waits 11 = .ok (.getfield 27, 3) := by decide +kernel
theorem zd_M_waits_14 : decode zc_M_waits 14 = .ok (.iload_n 1, 1) := by decide +kernel
theorem zd_M_waits_15 : decode zc_M_waits 15 = .ok (.iaload, 1) := by decide +kernel
theorem zd_M_waits_16 : decode zc_M_waits 16 = .ok (.ifCond .ne 21, 3) := by decide +kernel
theorem zd_M_waits_19 : decode zc_M_waits 19 = .ok (.aload_n 0, 1) := by decide +kernel
theorem zd_M_waits_20 : decode zc_M_waits 20 = .ok (.iload_n 1, 1) := by decide +kernel
theorem zd_M_waits_21 : decode zc_M_waits 21 = .ok (.invokevirtual 64, 3) := by decide +kernel
theorem zd_M_waits_24 : decode zc_M_waits 24 = .ok (.ifCond .ne 13, 3) := by decide +kernel
theorem zd_M_waits_27 : decode zc_M_waits 27 = .ok (.aload_n 0, 1) := by decide +kernel
theorem zd_M_waits_28 : decode zc_M_waits 28 = .ok (.iload_n 1, 1) := by decide +kernel
theorem zd_M_waits_29 : decode zc_M_waits 29 = .ok (.invokevirtual 67, 3) := by decide +kernel
theorem zd_M_waits_32 : decode zc_M_waits 32 = .ok (.ifCond .ne 5, 3) := by decide +kernel
theorem zd_M_waits_35 : decode zc_M_waits 35 = .ok (.iload_n 1, 1) := by decide +kernel
theorem zd_M_waits_36 : decode zc_M_waits 36 = .ok (.ireturn, 1) := by decide +kernel
theorem zd_M_waits_37 : decode zc_M_waits 37 = .ok (.iinc 1 1, 3) := by decide +kernel
theorem zd_M_waits_40 : decode zc_M_waits 40 = .ok (.goto (-38), 3) := by decide +kernel
theorem zd_M_waits_43 : decode zc_M_waits 43 = .ok (.iconst (-1), 1) := by decide +kernel
theorem zd_M_waits_44 : decode zc_M_waits 44 = .ok (.ireturn, 1) := by decide +kernel
theorem zd_M_mover_0 : decode zc_M_mover 0 = .ok (.iload_n 1, 1) := by decide +kernel
theorem zd_M_mover_1 : decode zc_M_mover 1 = .ok (.istore_n 3, 1) := by decide +kernel
theorem zd_M_mover_2 : decode zc_M_mover 2 = .ok (.iconst 0, 1) := by decide +kernel
theorem zd_M_mover_3 : decode zc_M_mover 3 = .ok (.istore 4, 2) := by decide +kernel
theorem zd_M_mover_5 : decode zc_M_mover 5 = .ok (.iload 4, 2) := by decide +kernel
theorem zd_M_mover_7 : decode zc_M_mover 7 = .ok (.aload_n 0, 1) := by decide +kernel
theorem zd_M_mover_8 : decode zc_M_mover 8 = .ok (.getfield 61, 3) := by decide +kernel
theorem zd_M_mover_11 : decode zc_M_mover 11 = .ok (.if_icmp .ge 56, 3) := by decide +kernel
theorem zd_M_mover_14 : decode zc_M_mover 14 = .ok (.iload_n 2, 1) := by decide +kernel
theorem zd_M_mover_15 : decode zc_M_mover 15 = .ok (.ifCond .ne 14, 3) := by decide +kernel
theorem zd_M_mover_18 : decode zc_M_mover 18 = .ok (.aload_n 0, 1) := by decide +kernel
theorem zd_M_mover_19 : decode zc_M_mover 19 = .ok (.getfield 33, 3) := by decide +kernel
theorem zd_M_mover_22 : decode zc_M_mover 22 = .ok (.iload 4, 2) := by decide +kernel
theorem zd_M_mover_24 : decode zc_M_mover 24 = .ok (.iaload, 1) := by decide +kernel
theorem zd_M_mover_25 : decode zc_M_mover 25 = .ok (.iconst (-1), 1) := by decide +kernel
theorem zd_M_mover_26 : decode zc_M_mover 26 = .ok (.if_icmp .eq 7, 3) := by decide +kernel
theorem zd_M_mover_29 : decode zc_M_mover 29 = .ok (.iconst 1, 1) := by decide +kernel
theorem zd_M_mover_30 : decode zc_M_mover 30 = .ok (.goto 4, 3) := by decide +kernel
theorem zd_M_mover_33 : decode zc_M_mover 33 = .ok (.iconst 0, 1) := by decide +kernel
theorem zd_M_mover_34 : decode zc_M_mover 34 = .ok (.istore 5, 2) := by decide +kernel
theorem zd_M_mover_36 : decode zc_M_mover 36 = .ok (.iload 5, 2) := by decide +kernel
theorem zd_M_mover_38 : decode zc_M_mover 38 = .ok (.ifCond .eq 10, 3) := by decide +kernel
theorem zd_M_mover_41 : decode zc_M_mover 41 = .ok (.iload_n 3, 1) := by decide +kernel
theorem zd_M_mover_42 : decode zc_M_mover 42 = .ok (.ifCond .ne 6, 3) := by decide +kernel
theorem zd_M_mover_45 : decode zc_M_mover 45 = .ok (.iload 4, 2) := by decide +kernel
theorem zd_M_mover_47 : decode zc_M_mover 47 = .ok (.ireturn, 1) := by decide +kernel
theorem zd_M_mover_48 : decode zc_M_mover 48 = .ok (.iload 5, 2) := by decide +kernel
theorem zd_M_mover_50 : decode zc_M_mover 50 = .ok (.ifCond .eq 9, 3) := by decide +kernel
theorem zd_M_mover_53 : decode zc_M_mover 53 = .ok (.iload_n 3, 1) := by decide +kernel
theorem zd_M_mover_54 : decode zc_M_mover 54 = .ok (.iconst 1, 1) := by decide +kernel
theorem zd_M_mover_55 : decode zc_M_mover 55 = .ok (.isub, 1) := by decide +kernel
theorem zd_M_mover_56 : decode zc_M_mover 56 = .ok (.goto 4, 3) := by decide +kernel
theorem zd_M_mover_59 : decode zc_M_mover 59 = .ok (.iload_n 3, 1) := by decide +kernel
theorem zd_M_mover_60 : decode zc_M_mover 60 = .ok (.istore_n 3, 1) := by decide +kernel
theorem zd_M_mover_61 : decode zc_M_mover 61 = .ok (.iinc 4 1, 3) := by decide +kernel
theorem zd_M_mover_64 : decode zc_M_mover 64 = .ok (.goto (-59), 3) := by decide +kernel
theorem zd_M_mover_67 : decode zc_M_mover 67 = .ok (.iconst (-1), 1) := by decide +kernel
theorem zd_M_mover_68 : decode zc_M_mover 68 = .ok (.ireturn, 1) := by decide +kernel
theorem zd_M_movers_0 : decode zc_M_movers 0 = .ok (.iconst 0, 1) := by decide +kernel
theorem zd_M_movers_1 : decode zc_M_movers 1 = .ok (.istore_n 2, 1) := by decide +kernel
theorem zd_M_movers_2 : decode zc_M_movers 2 = .ok (.iconst 0, 1) := by decide +kernel
theorem zd_M_movers_3 : decode zc_M_movers 3 = .ok (.istore_n 3, 1) := by decide +kernel
theorem zd_M_movers_4 : decode zc_M_movers 4 = .ok (.iload_n 3, 1) := by decide +kernel
theorem zd_M_movers_5 : decode zc_M_movers 5 = .ok (.aload_n 0, 1) := by decide +kernel
theorem zd_M_movers_6 : decode zc_M_movers 6 = .ok (.getfield 61, 3) := by decide +kernel
theorem zd_M_movers_9 : decode zc_M_movers 9 = .ok (.if_icmp .ge 31, 3) := by decide +kernel
theorem zd_M_movers_12 : decode zc_M_movers 12 = .ok (.iload_n 1, 1) := by decide +kernel
theorem zd_M_movers_13 : decode zc_M_movers 13 = .ok (.ifCond .ne 13, 3) := by decide +kernel
theorem zd_M_movers_16 : decode zc_M_movers 16 = .ok (.aload_n 0, 1) := by decide +kernel
theorem zd_M_movers_17 : decode zc_M_movers 17 = .ok (.getfield 33, 3) := by decide +kernel
theorem zd_M_movers_20 : decode zc_M_movers 20 = .ok (.iload_n 3, 1) := by decide +kernel
theorem zd_M_movers_21 : decode zc_M_movers 21 = .ok (.iaload, 1) := by decide +kernel
theorem zd_M_movers_22 : decode zc_M_movers 22 = .ok (.iconst (-1), 1) := by decide +kernel
theorem zd_M_movers_23 : decode zc_M_movers 23 = .ok (.if_icmp .eq 9, 3) := by decide +kernel
theorem zd_M_movers_26 : decode zc_M_movers 26 = .ok (.iload_n 2, 1) := by decide +kernel
theorem zd_M_movers_27 : decode zc_M_movers 27 = .ok (.iconst 1, 1) := by decide +kernel
theorem zd_M_movers_28 : decode zc_M_movers 28 = .ok (.iadd, 1) := by decide +kernel
theorem zd_M_movers_29 : decode zc_M_movers 29 = .ok (.goto 4, 3) := by decide +kernel
theorem zd_M_movers_32 : decode zc_M_movers 32 = .ok (.iload_n 2, 1) := by decide +kernel
theorem zd_M_movers_33 : decode zc_M_movers 33 = .ok (.istore_n 2, 1) := by decide +kernel
theorem zd_M_movers_34 : decode zc_M_movers 34 = .ok (.iinc 3 1, 3) := by decide +kernel
theorem zd_M_movers_37 : decode zc_M_movers 37 = .ok (.goto (-33), 3) := by decide +kernel
theorem zd_M_movers_40 : decode zc_M_movers 40 = .ok (.iload_n 2, 1) := by decide +kernel
theorem zd_M_movers_41 : decode zc_M_movers 41 = .ok (.ireturn, 1) := by decide +kernel
theorem zd_M_tick_0 : decode zc_M_tick 0 = .ok (.aload_n 0, 1) := by decide +kernel
theorem zd_M_tick_1 : decode zc_M_tick 1 = .ok (.getfield 33, 3) := by decide +kernel
theorem zd_M_tick_4 : decode zc_M_tick 4 = .ok (.iload_n 1, 1) := by decide +kernel
theorem zd_M_tick_5 : decode zc_M_tick 5 = .ok (.iaload, 1) := by decide +kernel
theorem zd_M_tick_6 : decode zc_M_tick 6 = .ok (.iconst (-1), 1) := by decide +kernel
theorem zd_M_tick_7 : decode zc_M_tick 7 = .ok (.if_icmp .ne 10, 3) := by decide +kernel
theorem zd_M_tick_10 : decode zc_M_tick 10 = .ok (.aload_n 0, 1) := by decide +kernel
theorem zd_M_tick_11 : decode zc_M_tick 11 = .ok (.getfield 33, 3) := by decide +kernel
theorem zd_M_tick_14 : decode zc_M_tick 14 = .ok (.iload_n 1, 1) := by decide +kernel
theorem zd_M_tick_15 : decode zc_M_tick 15 = .ok (.iload_n 2, 1) := by decide +kernel
theorem zd_M_tick_16 : decode zc_M_tick 16 = .ok (.iastore, 1) := by decide +kernel
theorem zd_M_tick_17 : decode zc_M_tick 17 = .ok (.aload_n 0, 1) := by decide +kernel
theorem zd_M_tick_18 : decode zc_M_tick 18 = .ok (.getfield 33, 3) := by decide +kernel
theorem zd_M_tick_21 : decode zc_M_tick 21 = .ok (.iload_n 1, 1) := by decide +kernel
theorem zd_M_tick_22 : decode zc_M_tick 22 = .ok (.iaload, 1) := by decide +kernel
theorem zd_M_tick_23 : decode zc_M_tick 23 = .ok (.istore_n 3, 1) := by decide +kernel
theorem zd_M_tick_24 : decode zc_M_tick 24 = .ok (.aload_n 0, 1) := by decide +kernel
theorem zd_M_tick_25 : decode zc_M_tick 25 = .ok (.dup, 1) := by decide +kernel
theorem zd_M_tick_26 : decode zc_M_tick 26 = .ok (.getfield 70, 3) := by decide +kernel
theorem zd_M_tick_29 : decode zc_M_tick 29 = .ok (.iconst 1, 1) := by decide +kernel
theorem zd_M_tick_30 : decode zc_M_tick 30 = .ok (.iadd, 1) := by decide +kernel
theorem zd_M_tick_31 : decode zc_M_tick 31 = .ok (.putfield 70, 3) := by decide +kernel
theorem zd_M_tick_34 : decode zc_M_tick 34 = .ok (.aload_n 0, 1) := by decide +kernel
theorem zd_M_tick_35 : decode zc_M_tick 35 = .ok (.getfield 36, 3) := by decide +kernel
theorem zd_M_tick_38 : decode zc_M_tick 38 = .ok (.iload_n 1, 1) := by decide +kernel
theorem zd_M_tick_39 : decode zc_M_tick 39 = .ok (.dup2, 1) := by decide +kernel
theorem zd_M_tick_40 : decode zc_M_tick 40 = .ok (.iaload, 1) := by decide +kernel
theorem zd_M_tick_41 : decode zc_M_tick 41 = .ok (.iconst 1, 1) := by decide +kernel
theorem zd_M_tick_42 : decode zc_M_tick 42 = .ok (.iadd, 1) := by decide +kernel
theorem zd_M_tick_43 : decode zc_M_tick 43 = .ok (.iastore, 1) := by decide +kernel
theorem zd_M_tick_44 : decode zc_M_tick 44 = .ok (.aload_n 0, 1) := by decide +kernel
theorem zd_M_tick_45 : decode zc_M_tick 45 = .ok (.getfield 24, 3) := by decide +kernel
theorem zd_M_tick_48 : decode zc_M_tick 48 = .ok (.iload_n 3, 1) := by decide +kernel
theorem zd_M_tick_49 : decode zc_M_tick 49 = .ok (.dup2, 1) := by decide +kernel
theorem zd_M_tick_50 : decode zc_M_tick 50 = .ok (.iaload, 1) := by decide +kernel
theorem zd_M_tick_51 : decode zc_M_tick 51 = .ok (.iconst 1, 1) := by decide +kernel
theorem zd_M_tick_52 : decode zc_M_tick 52 = .ok (.iadd, 1) := by decide +kernel
theorem zd_M_tick_53 : decode zc_M_tick 53 = .ok (.iastore, 1) := by decide +kernel
theorem zd_M_tick_54 : decode zc_M_tick 54 = .ok (.aload_n 0, 1) := by decide +kernel
theorem zd_M_tick_55 : decode zc_M_tick 55 = .ok (.getfield 24, 3) := by decide +kernel
theorem zd_M_tick_58 : decode zc_M_tick 58 = .ok (.iload_n 3, 1) := by decide +kernel
theorem zd_M_tick_59 : decode zc_M_tick 59 = .ok (.iaload, 1) := by decide +kernel
theorem zd_M_tick_60 : decode zc_M_tick 60 = .ok (.aload_n 0, 1) := by decide +kernel
theorem zd_M_tick_61 : decode zc_M_tick 61 = .ok (.getfield 7, 3) := by decide +kernel
theorem zd_M_tick_64 : decode zc_M_tick 64 = .ok (.iload_n 3, 1) := by decide +kernel
theorem zd_M_tick_65 : decode zc_M_tick 65 = .ok (.iaload, 1) := by decide +kernel
theorem zd_M_tick_66 : decode zc_M_tick 66 = .ok (.aload_n 0, 1) := by decide +kernel
theorem zd_M_tick_67 : decode zc_M_tick 67 = .ok (.getfield 13, 3) := by decide +kernel
theorem zd_M_tick_70 : decode zc_M_tick 70 = .ok (.iload_n 3, 1) := by decide +kernel
theorem zd_M_tick_71 : decode zc_M_tick 71 = .ok (.iaload, 1) := by decide +kernel
theorem zd_M_tick_72 : decode zc_M_tick 72 = .ok (.iconst 1, 1) := by decide +kernel
theorem zd_M_tick_73 : decode zc_M_tick 73 = .ok (.iadd, 1) := by decide +kernel
theorem zd_M_tick_74 : decode zc_M_tick 74 = .ok (.imul, 1) := by decide +kernel
theorem zd_M_tick_75 : decode zc_M_tick 75 = .ok (.if_icmp .ge 4, 3) := by decide +kernel
theorem zd_M_tick_78 : decode zc_M_tick 78 = .ok (.return_, 1) := by decide +kernel
theorem zd_M_tick_79 : decode zc_M_tick 79 = .ok (.aload_n 0, 1) := by decide +kernel
theorem zd_M_tick_80 : decode zc_M_tick 80 = .ok (.getfield 27, 3) := by decide +kernel
theorem zd_M_tick_83 : decode zc_M_tick 83 = .ok (.iload_n 3, 1) := by decide +kernel
theorem zd_M_tick_84 : decode zc_M_tick 84 = .ok (.aload_n 0, 1) := by decide +kernel
theorem zd_M_tick_85 : decode zc_M_tick 85 = .ok (.getfield 70, 3) := by decide +kernel
theorem zd_M_tick_88 : decode zc_M_tick 88 = .ok (.iastore, 1) := by decide +kernel
theorem zd_M_tick_89 : decode zc_M_tick 89 = .ok (.aload_n 0, 1) := by decide +kernel
theorem zd_M_tick_90 : decode zc_M_tick 90 = .ok (.getfield 30, 3) := by decide +kernel
theorem zd_M_tick_93 : decode zc_M_tick 93 = .ok (.iload_n 3, 1) := by decide +kernel
theorem zd_M_tick_94 : decode zc_M_tick 94 = .ok (.iload_n 1, 1) := by decide +kernel
theorem zd_M_tick_95 : decode zc_M_tick 95 = .ok (.iastore, 1) := by decide +kernel
theorem zd_M_tick_96 : decode zc_M_tick 96 = .ok (.aload_n 0, 1) := by decide +kernel
theorem zd_M_tick_97 : decode zc_M_tick 97 = .ok (.getfield 39, 3) := by decide +kernel
theorem zd_M_tick_100 : decode zc_M_tick 100 = .ok (.aload_n 0, 1) := by decide +kernel
theorem zd_M_tick_101 : decode zc_M_tick 101 = .ok (.getfield 73, 3) := by decide +kernel
theorem zd_M_tick_104 : decode zc_M_tick 104 = .ok (.iload_n 3, 1) := by decide +kernel
theorem zd_M_tick_105 : decode zc_M_tick 105 = .ok (.iastore, 1) := by decide +kernel
theorem zd_M_tick_106 : decode zc_M_tick 106 = .ok (.aload_n 0, 1) := by decide +kernel
theorem zd_M_tick_107 : decode zc_M_tick 107 = .ok (.dup, 1) := by decide +kernel
theorem zd_M_tick_108 : decode zc_M_tick 108 = .ok (.getfield 73, 3) := by decide +kernel
theorem zd_M_tick_111 : decode zc_M_tick 111 = .ok (.iconst 1, 1) := by decide +kernel
theorem zd_M_tick_112 : decode zc_M_tick 112 = .ok (.iadd, 1) := by decide +kernel
theorem zd_M_tick_113 : decode zc_M_tick 113 = .ok (.putfield 73, 3) := by decide +kernel
theorem zd_M_tick_116 : decode zc_M_tick 116 = .ok (.aload_n 0, 1) := by decide +kernel
theorem zd_M_tick_117 : decode zc_M_tick 117 = .ok (.getfield 33, 3) := by decide +kernel
theorem zd_M_tick_120 : decode zc_M_tick 120 = .ok (.iload_n 1, 1) := by decide +kernel
theorem zd_M_tick_121 : decode zc_M_tick 121 = .ok (.iconst (-1), 1) := by decide +kernel
theorem zd_M_tick_122 : decode zc_M_tick 122 = .ok (.iastore, 1) := by decide +kernel
theorem zd_M_tick_123 : decode zc_M_tick 123 = .ok (.iconst 0, 1) := by decide +kernel
theorem zd_M_tick_124 : decode zc_M_tick 124 = .ok (.istore 4, 2) := by decide +kernel
theorem zd_M_tick_126 : decode zc_M_tick 126 = .ok (.iload 4, 2) := by decide +kernel
theorem zd_M_tick_128 : decode zc_M_tick 128 = .ok (.aload_n 0, 1) := by decide +kernel
theorem zd_M_tick_129 : decode zc_M_tick 129 = .ok (.getfield 61, 3) := by decide +kernel
theorem zd_M_tick_132 : decode zc_M_tick 132 = .ok (.if_icmp .ge 37, 3) := by decide +kernel
theorem zd_M_tick_135 : decode zc_M_tick 135 = .ok (.aload_n 0, 1) := by decide +kernel
theorem zd_M_tick_136 : decode zc_M_tick 136 = .ok (.getfield 20, 3) := by decide +kernel
theorem zd_M_tick_139 : decode zc_M_tick 139 = .ok (.iload_n 3, 1) := by decide +kernel
theorem zd_M_tick_140 : decode zc_M_tick 140 = .ok (.baload, 1) := by decide +kernel
theorem zd_M_tick_141 : decode zc_M_tick 141 = .ok (.ifCond .eq 22, 3) := by decide +kernel
theorem zd_M_tick_144 : decode zc_M_tick 144 = .ok (.aload_n 0, 1) := by decide +kernel
theorem zd_M_tick_145 : decode zc_M_tick 145 = .ok (.getfield 33, 3) := by decide +kernel
theorem zd_M_tick_148 : decode zc_M_tick 148 = .ok (.iload 4, 2) := by decide +kernel
theorem zd_M_tick_150 : decode zc_M_tick 150 = .ok (.iaload, 1) := by decide +kernel
theorem zd_M_tick_151 : decode zc_M_tick 151 = .ok (.iload_n 3, 1) := by decide +kernel
theorem zd_M_tick_152 : decode zc_M_tick 152 = .ok (.if_icmp .le 11, 3) := by decide +kernel
theorem zd_M_tick_155 : decode zc_M_tick 155 = .ok (.aload_n 0, 1) := by decide +kernel
theorem zd_M_tick_156 : decode zc_M_tick 156 = .ok (.getfield 33, 3) := by decide +kernel
theorem zd_M_tick_159 : decode zc_M_tick 159 = .ok (.iload 4, 2) := by decide +kernel
theorem zd_M_tick_161 : decode zc_M_tick 161 = .ok (.iconst (-1), 1) := by decide +kernel
theorem zd_M_tick_162 : decode zc_M_tick 162 = .ok (.iastore, 1) := by decide +kernel
theorem zd_M_tick_163 : decode zc_M_tick 163 = .ok (.iinc 4 1, 3) := by decide +kernel
theorem zd_M_tick_166 : decode zc_M_tick 166 = .ok (.goto (-40), 3) := by decide +kernel
theorem zd_M_tick_169 : decode zc_M_tick 169 = .ok (.return_, 1) := by decide +kernel
theorem zd_M_winner_0 : decode zc_M_winner 0 = .ok (.iconst 0, 1) := by decide +kernel
theorem zd_M_winner_1 : decode zc_M_winner 1 = .ok (.istore_n 1, 1) := by decide +kernel
theorem zd_M_winner_2 : decode zc_M_winner 2 = .ok (.iload_n 1, 1) := by decide +kernel
theorem zd_M_winner_3 : decode zc_M_winner 3 = .ok (.aload_n 0, 1) := by decide +kernel
theorem zd_M_winner_4 : decode zc_M_winner 4 = .ok (.getfield 42, 3) := by decide +kernel
theorem zd_M_winner_7 : decode zc_M_winner 7 = .ok (.if_icmp .ge 20, 3) := by decide +kernel
theorem zd_M_winner_10 : decode zc_M_winner 10 = .ok (.aload_n 0, 1) := by decide +kernel
theorem zd_M_winner_11 : decode zc_M_winner 11 = .ok (.getfield 20, 3) := by decide +kernel
theorem zd_M_winner_14 : decode zc_M_winner 14 = .ok (.iload_n 1, 1) := by decide +kernel
theorem zd_M_winner_15 : decode zc_M_winner 15 = .ok (.baload, 1) := by decide +kernel
theorem zd_M_winner_16 : decode zc_M_winner 16 = .ok (.ifCond .eq 5, 3) := by decide +kernel
theorem zd_M_winner_19 : decode zc_M_winner 19 = .ok (.iload_n 1, 1) := by decide +kernel
theorem zd_M_winner_20 : decode zc_M_winner 20 = .ok (.ireturn, 1) := by decide +kernel
theorem zd_M_winner_21 : decode zc_M_winner 21 = .ok (.iinc 1 1, 3) := by decide +kernel
theorem zd_M_winner_24 : decode zc_M_winner 24 = .ok (.goto (-22), 3) := by decide +kernel
theorem zd_M_winner_27 : decode zc_M_winner 27 = .ok (.iconst (-1), 1) := by decide +kernel
theorem zd_M_winner_28 : decode zc_M_winner 28 = .ok (.ireturn, 1) := by decide +kernel
theorem zd_M_run_0 : decode zc_M_run 0 = .ok (.aload_n 0, 1) := by decide +kernel
theorem zd_M_run_1 : decode zc_M_run 1 = .ok (.iload_n 1, 1) := by decide +kernel
theorem zd_M_run_2 : decode zc_M_run 2 = .ok (.iconst 1, 1) := by decide +kernel
theorem zd_M_run_3 : decode zc_M_run 3 = .ok (.if_icmp .lt 22, 3) := by decide +kernel
theorem zd_M_run_6 : decode zc_M_run 6 = .ok (.iload_n 1, 1) := by decide +kernel
theorem zd_M_run_7 : decode zc_M_run 7 = .ok (.bipush 16, 2) := by decide +kernel
theorem zd_M_run_9 : decode zc_M_run 9 = .ok (.if_icmp .gt 16, 3) := by decide +kernel
theorem zd_M_run_12 : decode zc_M_run 12 = .ok (.iload 4, 2) := by decide +kernel
theorem zd_M_run_14 : decode zc_M_run 14 = .ok (.ifCond .lt 11, 3) := by decide +kernel
theorem zd_M_run_17 : decode zc_M_run 17 = .ok (.iload 4, 2) := by decide +kernel
theorem zd_M_run_19 : decode zc_M_run 19 = .ok (.sipush 10000, 3) := by decide +kernel
theorem zd_M_run_22 : decode zc_M_run 22 = .ok (.if_icmp .le 7, 3) := by decide +kernel
theorem zd_M_run_25 : decode zc_M_run 25 = .ok (.iconst 1, 1) := by decide +kernel
theorem zd_M_run_26 : decode zc_M_run 26 = .ok (.goto 4, 3) := by decide +kernel
theorem zd_M_run_29 : decode zc_M_run 29 = .ok (.iconst 0, 1) := by decide +kernel
theorem zd_M_run_30 : decode zc_M_run 30 = .ok (.iconst 0, 1) := by decide +kernel
theorem zd_M_run_31 : decode zc_M_run 31 = .ok (.invokevirtual 53, 3) := by decide +kernel
theorem zd_M_run_34 : decode zc_M_run 34 = .ok (.ifCond .eq 5, 3) := by decide +kernel
theorem zd_M_run_37 : decode zc_M_run 37 = .ok (.iconst 0, 1) := by decide +kernel
theorem zd_M_run_38 : decode zc_M_run 38 = .ok (.ireturn, 1) := by decide +kernel
theorem zd_M_run_39 : decode zc_M_run 39 = .ok (.aload_n 0, 1) := by decide +kernel
theorem zd_M_run_40 : decode zc_M_run 40 = .ok (.iload_n 1, 1) := by decide +kernel
theorem zd_M_run_41 : decode zc_M_run 41 = .ok (.putfield 61, 3) := by decide +kernel
theorem zd_M_run_44 : decode zc_M_run 44 = .ok (.aload_n 0, 1) := by decide +kernel
theorem zd_M_run_45 : decode zc_M_run 45 = .ok (.iconst 0, 1) := by decide +kernel
theorem zd_M_run_46 : decode zc_M_run 46 = .ok (.putfield 70, 3) := by decide +kernel
theorem zd_M_run_49 : decode zc_M_run 49 = .ok (.aload_n 0, 1) := by decide +kernel
theorem zd_M_run_50 : decode zc_M_run 50 = .ok (.iconst 0, 1) := by decide +kernel
theorem zd_M_run_51 : decode zc_M_run 51 = .ok (.putfield 73, 3) := by decide +kernel
theorem zd_M_run_54 : decode zc_M_run 54 = .ok (.iconst 0, 1) := by decide +kernel
theorem zd_M_run_55 : decode zc_M_run 55 = .ok (.istore 5, 2) := by decide +kernel
theorem zd_M_run_57 : decode zc_M_run 57 = .ok (.iload 5, 2) := by decide +kernel
theorem zd_M_run_59 : decode zc_M_run 59 = .ok (.bipush 16, 2) := by decide +kernel
theorem zd_M_run_61 : decode zc_M_run 61 = .ok (.if_icmp .ge 49, 3) := by decide +kernel
theorem zd_M_run_64 : decode zc_M_run 64 = .ok (.aload_n 0, 1) := by decide +kernel
theorem zd_M_run_65 : decode zc_M_run 65 = .ok (.getfield 24, 3) := by decide +kernel
theorem zd_M_run_68 : decode zc_M_run 68 = .ok (.iload 5, 2) := by decide +kernel
theorem zd_M_run_70 : decode zc_M_run 70 = .ok (.iconst 0, 1) := by decide +kernel
theorem zd_M_run_71 : decode zc_M_run 71 = .ok (.iastore, 1) := by decide +kernel
theorem zd_M_run_72 : decode zc_M_run 72 = .ok (.aload_n 0, 1) := by decide +kernel
theorem zd_M_run_73 : decode zc_M_run 73 = .ok (.getfield 27, 3) := by decide +kernel
theorem zd_M_run_76 : decode zc_M_run 76 = .ok (.iload 5, 2) := by decide +kernel
theorem zd_M_run_78 : decode zc_M_run 78 = .ok (.iconst 0, 1) := by decide +kernel
theorem zd_M_run_79 : decode zc_M_run 79 = .ok (.iastore, 1) := by decide +kernel
theorem zd_M_run_80 : decode zc_M_run 80 = .ok (.aload_n 0, 1) := by decide +kernel
theorem zd_M_run_81 : decode zc_M_run 81 = .ok (.getfield 30, 3) := by decide +kernel
theorem zd_M_run_84 : decode zc_M_run 84 = .ok (.iload 5, 2) := by decide +kernel
theorem zd_M_run_86 : decode zc_M_run 86 = .ok (.iconst (-1), 1) := by decide +kernel
theorem zd_M_run_87 : decode zc_M_run 87 = .ok (.iastore, 1) := by decide +kernel
theorem zd_M_run_88 : decode zc_M_run 88 = .ok (.aload_n 0, 1) := by decide +kernel
theorem zd_M_run_89 : decode zc_M_run 89 = .ok (.getfield 33, 3) := by decide +kernel
theorem zd_M_run_92 : decode zc_M_run 92 = .ok (.iload 5, 2) := by decide +kernel
theorem zd_M_run_94 : decode zc_M_run 94 = .ok (.iconst (-1), 1) := by decide +kernel
theorem zd_M_run_95 : decode zc_M_run 95 = .ok (.iastore, 1) := by decide +kernel
theorem zd_M_run_96 : decode zc_M_run 96 = .ok (.aload_n 0, 1) := by decide +kernel
theorem zd_M_run_97 : decode zc_M_run 97 = .ok (.getfield 36, 3) := by decide +kernel
theorem zd_M_run_100 : decode zc_M_run 100 = .ok (.iload 5, 2) := by decide +kernel
theorem zd_M_run_102 : decode zc_M_run 102 = .ok (.iconst 0, 1) := by decide +kernel
theorem zd_M_run_103 : decode zc_M_run 103 = .ok (.iastore, 1) := by decide +kernel
theorem zd_M_run_104 : decode zc_M_run 104 = .ok (.iinc 5 1, 3) := by decide +kernel
theorem zd_M_run_107 : decode zc_M_run 107 = .ok (.goto (-50), 3) := by decide +kernel
theorem zd_M_run_110 : decode zc_M_run 110 = .ok (.lload_n 2, 1) := by decide +kernel
theorem zd_M_run_111 : decode zc_M_run 111 = .ok (.lstore 5, 2) := by decide +kernel
theorem zd_M_run_113 : decode zc_M_run 113 = .ok (.aload_n 0, 1) := by decide +kernel
theorem zd_M_run_114 : decode zc_M_run 114 = .ok (.invokevirtual 76, 3) := by decide +kernel
theorem zd_M_run_117 : decode zc_M_run 117 = .ok (.istore 7, 2) := by decide +kernel
theorem zd_M_run_119 : decode zc_M_run 119 = .ok (.aload_n 0, 1) := by decide +kernel
theorem zd_M_run_120 : decode zc_M_run 120 = .ok (.iload 7, 2) := by decide +kernel
theorem zd_M_run_122 : decode zc_M_run 122 = .ok (.iconst (-1), 1) := by decide +kernel
theorem zd_M_run_123 : decode zc_M_run 123 = .ok (.if_icmp .eq 7, 3) := by decide +kernel
theorem zd_M_run_126 : decode zc_M_run 126 = .ok (.iconst 1, 1) := by decide +kernel
theorem zd_M_run_127 : decode zc_M_run 127 = .ok (.goto 4, 3) := by decide +kernel
theorem zd_M_run_130 : decode zc_M_run 130 = .ok (.iconst 0, 1) := by decide +kernel
theorem zd_M_run_131 : decode zc_M_run 131 = .ok (.invokevirtual 80, 3) := by decide +kernel
theorem zd_M_run_134 : decode zc_M_run 134 = .ok (.istore 8, 2) := by decide +kernel
theorem zd_M_run_136 : decode zc_M_run 136 = .ok (.iload 8, 2) := by decide +kernel
theorem zd_M_run_138 : decode zc_M_run 138 = .ok (.ifCond .le 80, 3) := by decide +kernel
theorem zd_M_run_141 : decode zc_M_run 141 = .ok (.aload_n 0, 1) := by decide +kernel
theorem zd_M_run_142 : decode zc_M_run 142 = .ok (.getfield 70, 3) := by decide +kernel
theorem zd_M_run_145 : decode zc_M_run 145 = .ok (.iload 4, 2) := by decide +kernel
theorem zd_M_run_147 : decode zc_M_run 147 = .ok (.if_icmp .ge 71, 3) := by decide +kernel
theorem zd_M_run_150 : decode zc_M_run 150 = .ok (.lload 5, 2) := by decide +kernel
theorem zd_M_run_152 : decode zc_M_run 152 = .ok (.ldc2_w 84, 3) := by decide +kernel
theorem zd_M_run_155 : decode zc_M_run 155 = .ok (.lmul, 1) := by decide +kernel
theorem zd_M_run_156 : decode zc_M_run 156 = .ok (.ldc2_w 86, 3) := by decide +kernel
theorem zd_M_run_159 : decode zc_M_run 159 = .ok (.ladd, 1) := by decide +kernel
theorem zd_M_run_160 : decode zc_M_run 160 = .ok (.lstore 5, 2) := by decide +kernel
theorem zd_M_run_162 : decode zc_M_run 162 = .ok (.aload_n 0, 1) := by decide +kernel
theorem zd_M_run_163 : decode zc_M_run 163 = .ok (.aload_n 0, 1) := by decide +kernel
theorem zd_M_run_164 : decode zc_M_run 164 = .ok (.lload 5, 2) := by decide +kernel
theorem zd_M_run_166 : decode zc_M_run 166 = .ok (.bipush 33, 2) := by decide +kernel
theorem zd_M_run_168 : decode zc_M_run 168 = .ok (.lushr, 1) := by decide +kernel
theorem zd_M_run_169 : decode zc_M_run 169 = .ok (.l2i, 1) := by decide +kernel
theorem zd_M_run_170 : decode zc_M_run 170 = .ok (.iload 8, 2) := by decide +kernel
theorem zd_M_run_172 : decode zc_M_run 172 = .ok (.irem, 1) := by decide +kernel
theorem zd_M_run_173 : decode zc_M_run 173 = .ok (.iload 7, 2) := by decide +kernel
theorem zd_M_run_175 : decode zc_M_run 175 = .ok (.iconst (-1), 1) := by decide +kernel
theorem zd_M_run_176 : decode zc_M_run 176 = .ok (.if_icmp .eq 7, 3) := by decide +kernel
theorem zd_M_run_179 : decode zc_M_run 179 = .ok (.iconst 1, 1) := by decide +kernel
theorem zd_M_run_180 : decode zc_M_run 180 = .ok (.goto 4, 3) := by decide +kernel
theorem zd_M_run_183 : decode zc_M_run 183 = .ok (.iconst 0, 1) := by decide +kernel
theorem zd_M_run_184 : decode zc_M_run 184 = .ok (.invokevirtual 88, 3) := by decide +kernel
theorem zd_M_run_187 : decode zc_M_run 187 = .ok (.iload 7, 2) := by decide +kernel
theorem zd_M_run_189 : decode zc_M_run 189 = .ok (.invokevirtual 92, 3) := by decide +kernel
theorem zd_M_run_192 : decode zc_M_run 192 = .ok (.aload_n 0, 1) := by decide +kernel
theorem zd_M_run_193 : decode zc_M_run 193 = .ok (.invokevirtual 76, 3) := by decide +kernel
theorem zd_M_run_196 : decode zc_M_run 196 = .ok (.istore 7, 2) := by decide +kernel
theorem zd_M_run_198 : decode zc_M_run 198 = .ok (.aload_n 0, 1) := by decide +kernel
theorem zd_M_run_199 : decode zc_M_run 199 = .ok (.iload 7, 2) := by decide +kernel
theorem zd_M_run_201 : decode zc_M_run 201 = .ok (.iconst (-1), 1) := by decide +kernel
theorem zd_M_run_202 : decode zc_M_run 202 = .ok (.if_icmp .eq 7, 3) := by decide +kernel
theorem zd_M_run_205 : decode zc_M_run 205 = .ok (.iconst 1, 1) := by decide +kernel
theorem zd_M_run_206 : decode zc_M_run 206 = .ok (.goto 4, 3) := by decide +kernel
theorem zd_M_run_209 : decode zc_M_run 209 = .ok (.iconst 0, 1) := by decide +kernel
theorem zd_M_run_210 : decode zc_M_run 210 = .ok (.invokevirtual 80, 3) := by decide +kernel
theorem zd_M_run_213 : decode zc_M_run 213 = .ok (.istore 8, 2) := by decide +kernel
theorem zd_M_run_215 : decode zc_M_run 215 = .ok (.goto (-79), 3) := by decide +kernel
theorem zd_M_run_218 : decode zc_M_run 218 = .ok (.aload_n 0, 1) := by decide +kernel
theorem zd_M_run_219 : decode zc_M_run 219 = .ok (.iload 8, 2) := by decide +kernel
theorem zd_M_run_221 : decode zc_M_run 221 = .ok (.ifCond .ne 7, 3) := by decide +kernel
theorem zd_M_run_224 : decode zc_M_run 224 = .ok (.iconst 1, 1) := by decide +kernel
theorem zd_M_run_225 : decode zc_M_run 225 = .ok (.goto 4, 3) := by decide +kernel
theorem zd_M_run_228 : decode zc_M_run 228 = .ok (.iconst 0, 1) := by decide +kernel
theorem zd_M_run_229 : decode zc_M_run 229 = .ok (.putfield 57, 3) := by decide +kernel
theorem zd_M_run_232 : decode zc_M_run 232 = .ok (.aload_n 0, 1) := by decide +kernel
theorem zd_M_run_233 : decode zc_M_run 233 = .ok (.getfield 57, 3) := by decide +kernel
theorem zd_M_run_236 : decode zc_M_run 236 = .ok (.ifCond .eq 10, 3) := by decide +kernel
theorem zd_M_run_239 : decode zc_M_run 239 = .ok (.aload_n 0, 1) := by decide +kernel
theorem zd_M_run_240 : decode zc_M_run 240 = .ok (.invokevirtual 96, 3) := by decide +kernel
theorem zd_M_run_243 : decode zc_M_run 243 = .ok (.goto 5, 3) := by decide +kernel
theorem zd_M_run_246 : decode zc_M_run 246 = .ok (.bipush (-2), 2) := by decide +kernel
theorem zd_M_run_248 : decode zc_M_run 248 = .ok (.ireturn, 1) := by decide +kernel
theorem zd_M_counts_0 : decode zc_M_counts 0 = .ok (.aload_n 0, 1) := by decide +kernel
theorem zd_M_counts_1 : decode zc_M_counts 1 = .ok (.invokevirtual 96, 3) := by decide +kernel
theorem zd_M_counts_4 : decode zc_M_counts 4 = .ok (.istore_n 2, 1) := by decide +kernel
theorem zd_M_counts_5 : decode zc_M_counts 5 = .ok (.iload_n 2, 1) := by decide +kernel
theorem zd_M_counts_6 : decode zc_M_counts 6 = .ok (.iconst (-1), 1) := by decide +kernel
theorem zd_M_counts_7 : decode zc_M_counts 7 = .ok (.if_icmp .eq 8, 3) := by decide +kernel
theorem zd_M_counts_10 : decode zc_M_counts 10 = .ok (.iload_n 1, 1) := by decide +kernel
theorem zd_M_counts_11 : decode zc_M_counts 11 = .ok (.iload_n 2, 1) := by decide +kernel
theorem zd_M_counts_12 : decode zc_M_counts 12 = .ok (.if_icmp .gt 7, 3) := by decide +kernel
theorem zd_M_counts_15 : decode zc_M_counts 15 = .ok (.iconst 1, 1) := by decide +kernel
theorem zd_M_counts_16 : decode zc_M_counts 16 = .ok (.goto 4, 3) := by decide +kernel
theorem zd_M_counts_19 : decode zc_M_counts 19 = .ok (.iconst 0, 1) := by decide +kernel
theorem zd_M_counts_20 : decode zc_M_counts 20 = .ok (.ireturn, 1) := by decide +kernel
theorem zd_M_answer_0 : decode zc_M_answer 0 = .ok (.aload_n 0, 1) := by decide +kernel
theorem zd_M_answer_1 : decode zc_M_answer 1 = .ok (.aload_n 0, 1) := by decide +kernel
theorem zd_M_answer_2 : decode zc_M_answer 2 = .ok (.getfield 57, 3) := by decide +kernel
theorem zd_M_answer_5 : decode zc_M_answer 5 = .ok (.ifCond .ne 7, 3) := by decide +kernel
theorem zd_M_answer_8 : decode zc_M_answer 8 = .ok (.iconst 1, 1) := by decide +kernel
theorem zd_M_answer_9 : decode zc_M_answer 9 = .ok (.goto 4, 3) := by decide +kernel
theorem zd_M_answer_12 : decode zc_M_answer 12 = .ok (.iconst 0, 1) := by decide +kernel
theorem zd_M_answer_13 : decode zc_M_answer 13 = .ok (.iconst 0, 1) := by decide +kernel
theorem zd_M_answer_14 : decode zc_M_answer 14 = .ok (.invokevirtual 53, 3) := by decide +kernel
theorem zd_M_answer_17 : decode zc_M_answer 17 = .ok (.ifCond .eq 5, 3) := by decide +kernel
theorem zd_M_answer_20 : decode zc_M_answer 20 = .ok (.lconst 0, 1) := by decide +kernel
theorem zd_M_answer_21 : decode zc_M_answer 21 = .ok (.lreturn, 1) := by decide +kernel
theorem zd_M_answer_22 : decode zc_M_answer 22 = .ok (.aload_n 0, 1) := by decide +kernel
theorem zd_M_answer_23 : decode zc_M_answer 23 = .ok (.invokevirtual 96, 3) := by decide +kernel
theorem zd_M_answer_26 : decode zc_M_answer 26 = .ok (.istore_n 1, 1) := by decide +kernel
theorem zd_M_answer_27 : decode zc_M_answer 27 = .ok (.iload_n 1, 1) := by decide +kernel
theorem zd_M_answer_28 : decode zc_M_answer 28 = .ok (.iconst (-1), 1) := by decide +kernel
theorem zd_M_answer_29 : decode zc_M_answer 29 = .ok (.if_icmp .eq 10, 3) := by decide +kernel
theorem zd_M_answer_32 : decode zc_M_answer 32 = .ok (.aload_n 0, 1) := by decide +kernel
theorem zd_M_answer_33 : decode zc_M_answer 33 = .ok (.getfield 16, 3) := by decide +kernel
theorem zd_M_answer_36 : decode zc_M_answer 36 = .ok (.iload_n 1, 1) := by decide +kernel
theorem zd_M_answer_37 : decode zc_M_answer 37 = .ok (.laload, 1) := by decide +kernel
theorem zd_M_answer_38 : decode zc_M_answer 38 = .ok (.lreturn, 1) := by decide +kernel
theorem zd_M_answer_39 : decode zc_M_answer 39 = .ok (.lconst 0, 1) := by decide +kernel
theorem zd_M_answer_40 : decode zc_M_answer 40 = .ok (.lstore_n 2, 1) := by decide +kernel
theorem zd_M_answer_41 : decode zc_M_answer 41 = .ok (.iconst 0, 1) := by decide +kernel
theorem zd_M_answer_42 : decode zc_M_answer 42 = .ok (.istore 4, 2) := by decide +kernel
theorem zd_M_answer_44 : decode zc_M_answer 44 = .ok (.iload 4, 2) := by decide +kernel
theorem zd_M_answer_46 : decode zc_M_answer 46 = .ok (.aload_n 0, 1) := by decide +kernel
theorem zd_M_answer_47 : decode zc_M_answer 47 = .ok (.getfield 42, 3) := by decide +kernel
theorem zd_M_answer_50 : decode zc_M_answer 50 = .ok (.if_icmp .ge 19, 3) := by decide +kernel
theorem zd_M_answer_53 : decode zc_M_answer 53 = .ok (.lload_n 2, 1) := by decide +kernel
theorem zd_M_answer_54 : decode zc_M_answer 54 = .ok (.aload_n 0, 1) := by decide +kernel
theorem zd_M_answer_55 : decode zc_M_answer 55 = .ok (.getfield 16, 3) := by decide +kernel
theorem zd_M_answer_58 : decode zc_M_answer 58 = .ok (.iload 4, 2) := by decide +kernel
theorem zd_M_answer_60 : decode zc_M_answer 60 = .ok (.laload, 1) := by decide +kernel
theorem zd_M_answer_61 : decode zc_M_answer 61 = .ok (.ladd, 1) := by decide +kernel
theorem zd_M_answer_62 : decode zc_M_answer 62 = .ok (.lstore_n 2, 1) := by decide +kernel
theorem zd_M_answer_63 : decode zc_M_answer 63 = .ok (.iinc 4 1, 3) := by decide +kernel
theorem zd_M_answer_66 : decode zc_M_answer 66 = .ok (.goto (-22), 3) := by decide +kernel
theorem zd_M_answer_69 : decode zc_M_answer 69 = .ok (.lload_n 2, 1) := by decide +kernel
theorem zd_M_answer_70 : decode zc_M_answer 70 = .ok (.lreturn, 1) := by decide +kernel
theorem zd_M_ticks_0 : decode zc_M_ticks 0 = .ok (.aload_n 0, 1) := by decide +kernel
theorem zd_M_ticks_1 : decode zc_M_ticks 1 = .ok (.aload_n 0, 1) := by decide +kernel
theorem zd_M_ticks_2 : decode zc_M_ticks 2 = .ok (.getfield 57, 3) := by decide +kernel
theorem zd_M_ticks_5 : decode zc_M_ticks 5 = .ok (.ifCond .ne 7, 3) := by decide +kernel
theorem zd_M_ticks_8 : decode zc_M_ticks 8 = .ok (.iconst 1, 1) := by decide +kernel
theorem zd_M_ticks_9 : decode zc_M_ticks 9 = .ok (.goto 4, 3) := by decide +kernel
theorem zd_M_ticks_12 : decode zc_M_ticks 12 = .ok (.iconst 0, 1) := by decide +kernel
theorem zd_M_ticks_13 : decode zc_M_ticks 13 = .ok (.iconst 0, 1) := by decide +kernel
theorem zd_M_ticks_14 : decode zc_M_ticks 14 = .ok (.invokevirtual 53, 3) := by decide +kernel
theorem zd_M_ticks_17 : decode zc_M_ticks 17 = .ok (.ifCond .eq 5, 3) := by decide +kernel
theorem zd_M_ticks_20 : decode zc_M_ticks 20 = .ok (.iconst 0, 1) := by decide +kernel
theorem zd_M_ticks_21 : decode zc_M_ticks 21 = .ok (.ireturn, 1) := by decide +kernel
theorem zd_M_ticks_22 : decode zc_M_ticks 22 = .ok (.iconst 0, 1) := by decide +kernel
theorem zd_M_ticks_23 : decode zc_M_ticks 23 = .ok (.istore_n 2, 1) := by decide +kernel
theorem zd_M_ticks_24 : decode zc_M_ticks 24 = .ok (.iconst 0, 1) := by decide +kernel
theorem zd_M_ticks_25 : decode zc_M_ticks 25 = .ok (.istore_n 3, 1) := by decide +kernel
theorem zd_M_ticks_26 : decode zc_M_ticks 26 = .ok (.iload_n 3, 1) := by decide +kernel
theorem zd_M_ticks_27 : decode zc_M_ticks 27 = .ok (.aload_n 0, 1) := by decide +kernel
theorem zd_M_ticks_28 : decode zc_M_ticks 28 = .ok (.getfield 42, 3) := by decide +kernel
theorem zd_M_ticks_31 : decode zc_M_ticks 31 = .ok (.if_icmp .ge 30, 3) := by decide +kernel
theorem zd_M_ticks_34 : decode zc_M_ticks 34 = .ok (.iload_n 2, 1) := by decide +kernel
theorem zd_M_ticks_35 : decode zc_M_ticks 35 = .ok (.aload_n 0, 1) := by decide +kernel
theorem zd_M_ticks_36 : decode zc_M_ticks 36 = .ok (.iload_n 3, 1) := by decide +kernel
theorem zd_M_ticks_37 : decode zc_M_ticks 37 = .ok (.invokevirtual 99, 3) := by decide +kernel
theorem zd_M_ticks_40 : decode zc_M_ticks 40 = .ok (.ifCond .eq 12, 3) := by decide +kernel
theorem zd_M_ticks_43 : decode zc_M_ticks 43 = .ok (.aload_n 0, 1) := by decide +kernel
theorem zd_M_ticks_44 : decode zc_M_ticks 44 = .ok (.getfield 24, 3) := by decide +kernel
theorem zd_M_ticks_47 : decode zc_M_ticks 47 = .ok (.iload_n 3, 1) := by decide +kernel
theorem zd_M_ticks_48 : decode zc_M_ticks 48 = .ok (.iaload, 1) := by decide +kernel
theorem zd_M_ticks_49 : decode zc_M_ticks 49 = .ok (.goto 4, 3) := by decide +kernel
theorem zd_M_ticks_52 : decode zc_M_ticks 52 = .ok (.iconst 0, 1) := by decide +kernel
theorem zd_M_ticks_53 : decode zc_M_ticks 53 = .ok (.iadd, 1) := by decide +kernel
theorem zd_M_ticks_54 : decode zc_M_ticks 54 = .ok (.istore_n 2, 1) := by decide +kernel
theorem zd_M_ticks_55 : decode zc_M_ticks 55 = .ok (.iinc 3 1, 3) := by decide +kernel
theorem zd_M_ticks_58 : decode zc_M_ticks 58 = .ok (.goto (-32), 3) := by decide +kernel
theorem zd_M_ticks_61 : decode zc_M_ticks 61 = .ok (.iload_n 1, 1) := by decide +kernel
theorem zd_M_ticks_62 : decode zc_M_ticks 62 = .ok (.ifCond .ne 7, 3) := by decide +kernel
theorem zd_M_ticks_65 : decode zc_M_ticks 65 = .ok (.iload_n 2, 1) := by decide +kernel
theorem zd_M_ticks_66 : decode zc_M_ticks 66 = .ok (.goto 30, 3) := by decide +kernel
theorem zd_M_ticks_69 : decode zc_M_ticks 69 = .ok (.iload_n 1, 1) := by decide +kernel
theorem zd_M_ticks_70 : decode zc_M_ticks 70 = .ok (.iconst 1, 1) := by decide +kernel
theorem zd_M_ticks_71 : decode zc_M_ticks 71 = .ok (.if_icmp .ne 12, 3) := by decide +kernel
theorem zd_M_ticks_74 : decode zc_M_ticks 74 = .ok (.aload_n 0, 1) := by decide +kernel
theorem zd_M_ticks_75 : decode zc_M_ticks 75 = .ok (.getfield 70, 3) := by decide +kernel
theorem zd_M_ticks_78 : decode zc_M_ticks 78 = .ok (.iload_n 2, 1) := by decide +kernel
theorem zd_M_ticks_79 : decode zc_M_ticks 79 = .ok (.isub, 1) := by decide +kernel
theorem zd_M_ticks_80 : decode zc_M_ticks 80 = .ok (.goto 16, 3) := by decide +kernel
theorem zd_M_ticks_83 : decode zc_M_ticks 83 = .ok (.iload_n 1, 1) := by decide +kernel
theorem zd_M_ticks_84 : decode zc_M_ticks 84 = .ok (.iconst 2, 1) := by decide +kernel
theorem zd_M_ticks_85 : decode zc_M_ticks 85 = .ok (.if_icmp .ne 10, 3) := by decide +kernel
theorem zd_M_ticks_88 : decode zc_M_ticks 88 = .ok (.aload_n 0, 1) := by decide +kernel
theorem zd_M_ticks_89 : decode zc_M_ticks 89 = .ok (.getfield 70, 3) := by decide +kernel
theorem zd_M_ticks_92 : decode zc_M_ticks 92 = .ok (.goto 4, 3) := by decide +kernel
theorem zd_M_ticks_95 : decode zc_M_ticks 95 = .ok (.iconst (-1), 1) := by decide +kernel
theorem zd_M_ticks_96 : decode zc_M_ticks 96 = .ok (.ireturn, 1) := by decide +kernel
theorem zd_M_worked_0 : decode zc_M_worked 0 = .ok (.aload_n 0, 1) := by decide +kernel
theorem zd_M_worked_1 : decode zc_M_worked 1 = .ok (.aload_n 0, 1) := by decide +kernel
theorem zd_M_worked_2 : decode zc_M_worked 2 = .ok (.getfield 57, 3) := by decide +kernel
theorem zd_M_worked_5 : decode zc_M_worked 5 = .ok (.ifCond .ne 7, 3) := by decide +kernel
theorem zd_M_worked_8 : decode zc_M_worked 8 = .ok (.iconst 1, 1) := by decide +kernel
theorem zd_M_worked_9 : decode zc_M_worked 9 = .ok (.goto 4, 3) := by decide +kernel
theorem zd_M_worked_12 : decode zc_M_worked 12 = .ok (.iconst 0, 1) := by decide +kernel
theorem zd_M_worked_13 : decode zc_M_worked 13 = .ok (.iload_n 1, 1) := by decide +kernel
theorem zd_M_worked_14 : decode zc_M_worked 14 = .ok (.ifCond .lt 11, 3) := by decide +kernel
theorem zd_M_worked_17 : decode zc_M_worked 17 = .ok (.iload_n 1, 1) := by decide +kernel
theorem zd_M_worked_18 : decode zc_M_worked 18 = .ok (.aload_n 0, 1) := by decide +kernel
theorem zd_M_worked_19 : decode zc_M_worked 19 = .ok (.getfield 61, 3) := by decide +kernel
theorem zd_M_worked_22 : decode zc_M_worked 22 = .ok (.if_icmp .lt 7, 3) := by decide +kernel
theorem zd_M_worked_25 : decode zc_M_worked 25 = .ok (.iconst 1, 1) := by decide +kernel
theorem zd_M_worked_26 : decode zc_M_worked 26 = .ok (.goto 4, 3) := by decide +kernel
theorem zd_M_worked_29 : decode zc_M_worked 29 = .ok (.iconst 0, 1) := by decide +kernel
theorem zd_M_worked_30 : decode zc_M_worked 30 = .ok (.invokevirtual 53, 3) := by decide +kernel
theorem zd_M_worked_33 : decode zc_M_worked 33 = .ok (.ifCond .eq 5, 3) := by decide +kernel
theorem zd_M_worked_36 : decode zc_M_worked 36 = .ok (.iconst 0, 1) := by decide +kernel
theorem zd_M_worked_37 : decode zc_M_worked 37 = .ok (.ireturn, 1) := by decide +kernel
theorem zd_M_worked_38 : decode zc_M_worked 38 = .ok (.aload_n 0, 1) := by decide +kernel
theorem zd_M_worked_39 : decode zc_M_worked 39 = .ok (.getfield 36, 3) := by decide +kernel
theorem zd_M_worked_42 : decode zc_M_worked 42 = .ok (.iload_n 1, 1) := by decide +kernel
theorem zd_M_worked_43 : decode zc_M_worked 43 = .ok (.iaload, 1) := by decide +kernel
theorem zd_M_worked_44 : decode zc_M_worked 44 = .ok (.ireturn, 1) := by decide +kernel
theorem zd_M_done_0 : decode zc_M_done 0 = .ok (.aload_n 0, 1) := by decide +kernel
theorem zd_M_done_1 : decode zc_M_done 1 = .ok (.aload_n 0, 1) := by decide +kernel
theorem zd_M_done_2 : decode zc_M_done 2 = .ok (.getfield 57, 3) := by decide +kernel
theorem zd_M_done_5 : decode zc_M_done 5 = .ok (.ifCond .ne 7, 3) := by decide +kernel
theorem zd_M_done_8 : decode zc_M_done 8 = .ok (.iconst 1, 1) := by decide +kernel
theorem zd_M_done_9 : decode zc_M_done 9 = .ok (.goto 4, 3) := by decide +kernel
theorem zd_M_done_12 : decode zc_M_done 12 = .ok (.iconst 0, 1) := by decide +kernel
theorem zd_M_done_13 : decode zc_M_done 13 = .ok (.iload_n 1, 1) := by decide +kernel
theorem zd_M_done_14 : decode zc_M_done 14 = .ok (.ifCond .lt 11, 3) := by decide +kernel
theorem zd_M_done_17 : decode zc_M_done 17 = .ok (.iload_n 1, 1) := by decide +kernel
theorem zd_M_done_18 : decode zc_M_done 18 = .ok (.aload_n 0, 1) := by decide +kernel
theorem zd_M_done_19 : decode zc_M_done 19 = .ok (.getfield 73, 3) := by decide +kernel
theorem zd_M_done_22 : decode zc_M_done 22 = .ok (.if_icmp .lt 7, 3) := by decide +kernel
theorem zd_M_done_25 : decode zc_M_done 25 = .ok (.iconst 1, 1) := by decide +kernel
theorem zd_M_done_26 : decode zc_M_done 26 = .ok (.goto 4, 3) := by decide +kernel
theorem zd_M_done_29 : decode zc_M_done 29 = .ok (.iconst 0, 1) := by decide +kernel
theorem zd_M_done_30 : decode zc_M_done 30 = .ok (.invokevirtual 53, 3) := by decide +kernel
theorem zd_M_done_33 : decode zc_M_done 33 = .ok (.ifCond .eq 5, 3) := by decide +kernel
theorem zd_M_done_36 : decode zc_M_done 36 = .ok (.iconst 0, 1) := by decide +kernel
theorem zd_M_done_37 : decode zc_M_done 37 = .ok (.ireturn, 1) := by decide +kernel
theorem zd_M_done_38 : decode zc_M_done 38 = .ok (.aload_n 0, 1) := by decide +kernel
theorem zd_M_done_39 : decode zc_M_done 39 = .ok (.getfield 39, 3) := by decide +kernel
theorem zd_M_done_42 : decode zc_M_done 42 = .ok (.iload_n 1, 1) := by decide +kernel
theorem zd_M_done_43 : decode zc_M_done 43 = .ok (.iaload, 1) := by decide +kernel
theorem zd_M_done_44 : decode zc_M_done 44 = .ok (.ireturn, 1) := by decide +kernel
theorem zd_M_by_0 : decode zc_M_by 0 = .ok (.aload_n 0, 1) := by decide +kernel
theorem zd_M_by_1 : decode zc_M_by 1 = .ok (.aload_n 0, 1) := by decide +kernel
theorem zd_M_by_2 : decode zc_M_by 2 = .ok (.getfield 57, 3) := by decide +kernel
theorem zd_M_by_5 : decode zc_M_by 5 = .ok (.ifCond .ne 7, 3) := by decide +kernel
theorem zd_M_by_8 : decode zc_M_by 8 = .ok (.iconst 1, 1) := by decide +kernel
theorem zd_M_by_9 : decode zc_M_by 9 = .ok (.goto 4, 3) := by decide +kernel
theorem zd_M_by_12 : decode zc_M_by 12 = .ok (.iconst 0, 1) := by decide +kernel
theorem zd_M_by_13 : decode zc_M_by 13 = .ok (.aload_n 0, 1) := by decide +kernel
theorem zd_M_by_14 : decode zc_M_by 14 = .ok (.iload_n 1, 1) := by decide +kernel
theorem zd_M_by_15 : decode zc_M_by 15 = .ok (.invokevirtual 49, 3) := by decide +kernel
theorem zd_M_by_18 : decode zc_M_by 18 = .ok (.ifCond .ne 7, 3) := by decide +kernel
theorem zd_M_by_21 : decode zc_M_by 21 = .ok (.iconst 1, 1) := by decide +kernel
theorem zd_M_by_22 : decode zc_M_by 22 = .ok (.goto 4, 3) := by decide +kernel
theorem zd_M_by_25 : decode zc_M_by 25 = .ok (.iconst 0, 1) := by decide +kernel
theorem zd_M_by_26 : decode zc_M_by 26 = .ok (.invokevirtual 53, 3) := by decide +kernel
theorem zd_M_by_29 : decode zc_M_by 29 = .ok (.ifCond .eq 5, 3) := by decide +kernel
theorem zd_M_by_32 : decode zc_M_by 32 = .ok (.iconst 0, 1) := by decide +kernel
theorem zd_M_by_33 : decode zc_M_by 33 = .ok (.ireturn, 1) := by decide +kernel
theorem zd_M_by_34 : decode zc_M_by 34 = .ok (.aload_n 0, 1) := by decide +kernel
theorem zd_M_by_35 : decode zc_M_by 35 = .ok (.iload_n 1, 1) := by decide +kernel
theorem zd_M_by_36 : decode zc_M_by 36 = .ok (.invokevirtual 99, 3) := by decide +kernel
theorem zd_M_by_39 : decode zc_M_by 39 = .ok (.ifCond .eq 12, 3) := by decide +kernel
theorem zd_M_by_42 : decode zc_M_by 42 = .ok (.aload_n 0, 1) := by decide +kernel
theorem zd_M_by_43 : decode zc_M_by 43 = .ok (.getfield 30, 3) := by decide +kernel
theorem zd_M_by_46 : decode zc_M_by 46 = .ok (.iload_n 1, 1) := by decide +kernel
theorem zd_M_by_47 : decode zc_M_by 47 = .ok (.iaload, 1) := by decide +kernel
theorem zd_M_by_48 : decode zc_M_by 48 = .ok (.goto 4, 3) := by decide +kernel
theorem zd_M_by_51 : decode zc_M_by 51 = .ok (.iconst (-1), 1) := by decide +kernel
theorem zd_M_by_52 : decode zc_M_by 52 = .ok (.ireturn, 1) := by decide +kernel
theorem zd_M_failed_0 : decode zc_M_failed 0 = .ok (.aload_n 0, 1) := by decide +kernel
theorem zd_M_failed_1 : decode zc_M_failed 1 = .ok (.aload_n 0, 1) := by decide +kernel
theorem zd_M_failed_2 : decode zc_M_failed 2 = .ok (.getfield 57, 3) := by decide +kernel
theorem zd_M_failed_5 : decode zc_M_failed 5 = .ok (.ifCond .ne 7, 3) := by decide +kernel
theorem zd_M_failed_8 : decode zc_M_failed 8 = .ok (.iconst 1, 1) := by decide +kernel
theorem zd_M_failed_9 : decode zc_M_failed 9 = .ok (.goto 4, 3) := by decide +kernel
theorem zd_M_failed_12 : decode zc_M_failed 12 = .ok (.iconst 0, 1) := by decide +kernel
theorem zd_M_failed_13 : decode zc_M_failed 13 = .ok (.aload_n 0, 1) := by decide +kernel
theorem zd_M_failed_14 : decode zc_M_failed 14 = .ok (.iload_n 1, 1) := by decide +kernel
theorem zd_M_failed_15 : decode zc_M_failed 15 = .ok (.invokevirtual 49, 3) := by decide +kernel
theorem zd_M_failed_18 : decode zc_M_failed 18 = .ok (.ifCond .ne 7, 3) := by decide +kernel
theorem zd_M_failed_21 : decode zc_M_failed 21 = .ok (.iconst 1, 1) := by decide +kernel
theorem zd_M_failed_22 : decode zc_M_failed 22 = .ok (.goto 4, 3) := by decide +kernel
theorem zd_M_failed_25 : decode zc_M_failed 25 = .ok (.iconst 0, 1) := by decide +kernel
theorem zd_M_failed_26 : decode zc_M_failed 26 = .ok (.invokevirtual 53, 3) := by decide +kernel
theorem zd_M_failed_29 : decode zc_M_failed 29 = .ok (.ifCond .eq 5, 3) := by decide +kernel
theorem zd_M_failed_32 : decode zc_M_failed 32 = .ok (.iconst 0, 1) := by decide +kernel
theorem zd_M_failed_33 : decode zc_M_failed 33 = .ok (.ireturn, 1) := by decide +kernel
theorem zd_M_failed_34 : decode zc_M_failed 34 = .ok (.aload_n 0, 1) := by decide +kernel
theorem zd_M_failed_35 : decode zc_M_failed 35 = .ok (.getfield 24, 3) := by decide +kernel
theorem zd_M_failed_38 : decode zc_M_failed 38 = .ok (.iload_n 1, 1) := by decide +kernel
theorem zd_M_failed_39 : decode zc_M_failed 39 = .ok (.iaload, 1) := by decide +kernel
theorem zd_M_failed_40 : decode zc_M_failed 40 = .ok (.aload_n 0, 1) := by decide +kernel
theorem zd_M_failed_41 : decode zc_M_failed 41 = .ok (.getfield 7, 3) := by decide +kernel
theorem zd_M_failed_44 : decode zc_M_failed 44 = .ok (.iload_n 1, 1) := by decide +kernel
theorem zd_M_failed_45 : decode zc_M_failed 45 = .ok (.iaload, 1) := by decide +kernel
theorem zd_M_failed_46 : decode zc_M_failed 46 = .ok (.idiv, 1) := by decide +kernel
theorem zd_M_failed_47 : decode zc_M_failed 47 = .ok (.istore_n 2, 1) := by decide +kernel
theorem zd_M_failed_48 : decode zc_M_failed 48 = .ok (.aload_n 0, 1) := by decide +kernel
theorem zd_M_failed_49 : decode zc_M_failed 49 = .ok (.iload_n 1, 1) := by decide +kernel
theorem zd_M_failed_50 : decode zc_M_failed 50 = .ok (.invokevirtual 99, 3) := by decide +kernel
theorem zd_M_failed_53 : decode zc_M_failed 53 = .ok (.ifCond .ne 7, 3) := by decide +kernel
theorem zd_M_failed_56 : decode zc_M_failed 56 = .ok (.iconst 0, 1) := by decide +kernel
theorem zd_M_failed_57 : decode zc_M_failed 57 = .ok (.goto 23, 3) := by decide +kernel
theorem zd_M_failed_60 : decode zc_M_failed 60 = .ok (.iload_n 2, 1) := by decide +kernel
theorem zd_M_failed_61 : decode zc_M_failed 61 = .ok (.aload_n 0, 1) := by decide +kernel
theorem zd_M_failed_62 : decode zc_M_failed 62 = .ok (.getfield 13, 3) := by decide +kernel
theorem zd_M_failed_65 : decode zc_M_failed 65 = .ok (.iload_n 1, 1) := by decide +kernel
theorem zd_M_failed_66 : decode zc_M_failed 66 = .ok (.iaload, 1) := by decide +kernel
theorem zd_M_failed_67 : decode zc_M_failed 67 = .ok (.if_icmp .ge 7, 3) := by decide +kernel
theorem zd_M_failed_70 : decode zc_M_failed 70 = .ok (.iload_n 2, 1) := by decide +kernel
theorem zd_M_failed_71 : decode zc_M_failed 71 = .ok (.goto 9, 3) := by decide +kernel
theorem zd_M_failed_74 : decode zc_M_failed 74 = .ok (.aload_n 0, 1) := by decide +kernel
theorem zd_M_failed_75 : decode zc_M_failed 75 = .ok (.getfield 13, 3) := by decide +kernel
theorem zd_M_failed_78 : decode zc_M_failed 78 = .ok (.iload_n 1, 1) := by decide +kernel
theorem zd_M_failed_79 : decode zc_M_failed 79 = .ok (.iaload, 1) := by decide +kernel
theorem zd_M_failed_80 : decode zc_M_failed 80 = .ok (.ireturn, 1) := by decide +kernel
theorem zd_M_at_0 : decode zc_M_at 0 = .ok (.aload_n 0, 1) := by decide +kernel
theorem zd_M_at_1 : decode zc_M_at 1 = .ok (.aload_n 0, 1) := by decide +kernel
theorem zd_M_at_2 : decode zc_M_at 2 = .ok (.getfield 57, 3) := by decide +kernel
theorem zd_M_at_5 : decode zc_M_at 5 = .ok (.ifCond .ne 7, 3) := by decide +kernel
theorem zd_M_at_8 : decode zc_M_at 8 = .ok (.iconst 1, 1) := by decide +kernel
theorem zd_M_at_9 : decode zc_M_at 9 = .ok (.goto 4, 3) := by decide +kernel
theorem zd_M_at_12 : decode zc_M_at 12 = .ok (.iconst 0, 1) := by decide +kernel
theorem zd_M_at_13 : decode zc_M_at 13 = .ok (.aload_n 0, 1) := by decide +kernel
theorem zd_M_at_14 : decode zc_M_at 14 = .ok (.iload_n 1, 1) := by decide +kernel
theorem zd_M_at_15 : decode zc_M_at 15 = .ok (.invokevirtual 49, 3) := by decide +kernel
theorem zd_M_at_18 : decode zc_M_at 18 = .ok (.ifCond .ne 7, 3) := by decide +kernel
theorem zd_M_at_21 : decode zc_M_at 21 = .ok (.iconst 1, 1) := by decide +kernel
theorem zd_M_at_22 : decode zc_M_at 22 = .ok (.goto 4, 3) := by decide +kernel
theorem zd_M_at_25 : decode zc_M_at 25 = .ok (.iconst 0, 1) := by decide +kernel
theorem zd_M_at_26 : decode zc_M_at 26 = .ok (.invokevirtual 53, 3) := by decide +kernel
theorem zd_M_at_29 : decode zc_M_at 29 = .ok (.ifCond .eq 5, 3) := by decide +kernel
theorem zd_M_at_32 : decode zc_M_at 32 = .ok (.iconst 0, 1) := by decide +kernel
theorem zd_M_at_33 : decode zc_M_at 33 = .ok (.ireturn, 1) := by decide +kernel
theorem zd_M_at_34 : decode zc_M_at 34 = .ok (.aload_n 0, 1) := by decide +kernel
theorem zd_M_at_35 : decode zc_M_at 35 = .ok (.iload_n 1, 1) := by decide +kernel
theorem zd_M_at_36 : decode zc_M_at 36 = .ok (.invokevirtual 99, 3) := by decide +kernel
theorem zd_M_at_39 : decode zc_M_at 39 = .ok (.ifCond .eq 12, 3) := by decide +kernel
theorem zd_M_at_42 : decode zc_M_at 42 = .ok (.aload_n 0, 1) := by decide +kernel
theorem zd_M_at_43 : decode zc_M_at 43 = .ok (.getfield 27, 3) := by decide +kernel
theorem zd_M_at_46 : decode zc_M_at 46 = .ok (.iload_n 1, 1) := by decide +kernel
theorem zd_M_at_47 : decode zc_M_at 47 = .ok (.iaload, 1) := by decide +kernel
theorem zd_M_at_48 : decode zc_M_at 48 = .ok (.goto 4, 3) := by decide +kernel
theorem zd_M_at_51 : decode zc_M_at 51 = .ok (.iconst 0, 1) := by decide +kernel
theorem zd_M_at_52 : decode zc_M_at 52 = .ok (.ireturn, 1) := by decide +kernel
theorem zd_M_count_0 : decode zc_M_count 0 = .ok (.aload_n 0, 1) := by decide +kernel
theorem zd_M_count_1 : decode zc_M_count 1 = .ok (.iconst 0, 1) := by decide +kernel
theorem zd_M_count_2 : decode zc_M_count 2 = .ok (.putfield 46, 3) := by decide +kernel
theorem zd_M_count_5 : decode zc_M_count 5 = .ok (.aload_n 0, 1) := by decide +kernel
theorem zd_M_count_6 : decode zc_M_count 6 = .ok (.getfield 42, 3) := by decide +kernel
theorem zd_M_count_9 : decode zc_M_count 9 = .ok (.ireturn, 1) := by decide +kernel
end
section
theorem zd_L_cell_0 : decode zc_L_cell 0 = .ok (.iload_n 1, 1) := by decide +kernel
theorem zd_L_cell_1 : decode zc_L_cell 1 = .ok (.aload_n 0, 1) := by decide +kernel
theorem zd_L_cell_2 : decode zc_L_cell 2 = .ok (.arraylength, 1) := by decide +kernel
theorem zd_L_cell_3 : decode zc_L_cell 3 = .ok (.if_icmp .ge 9, 3) := by decide +kernel
theorem zd_L_cell_6 : decode zc_L_cell 6 = .ok (.aload_n 0, 1) := by decide +kernel
theorem zd_L_cell_7 : decode zc_L_cell 7 = .ok (.iload_n 1, 1) := by decide +kernel
theorem zd_L_cell_8 : decode zc_L_cell 8 = .ok (.iaload, 1) := by decide +kernel
theorem zd_L_cell_9 : decode zc_L_cell 9 = .ok (.goto 4, 3) := by decide +kernel
theorem zd_L_cell_12 : decode zc_L_cell 12 = .ok (.iconst 0, 1) := by decide +kernel
theorem zd_L_cell_13 : decode zc_L_cell 13 = .ok (.ireturn, 1) := by decide +kernel
theorem zd_L_value_0 : decode zc_L_value 0 = .ok (.aload 6, 2) := by decide +kernel
theorem zd_L_value_2 : decode zc_L_value 2 = .ok (.iconst 0, 1) := by decide +kernel
theorem zd_L_value_3 : decode zc_L_value 3 = .ok (.aload_n 0, 1) := by decide +kernel
theorem zd_L_value_4 : decode zc_L_value 4 = .ok (.iload_n 1, 1) := by decide +kernel
theorem zd_L_value_5 : decode zc_L_value 5 = .ok (.iload_n 2, 1) := by decide +kernel
theorem zd_L_value_6 : decode zc_L_value 6 = .ok (.lload_n 3, 1) := by decide +kernel
theorem zd_L_value_7 : decode zc_L_value 7 = .ok (.iload 5, 2) := by decide +kernel
theorem zd_L_value_9 : decode zc_L_value 9 = .ok (.invokevirtual 7, 3) := by decide +kernel
theorem zd_L_value_12 : decode zc_L_value 12 = .ok (.ifCond .eq 7, 3) := by decide +kernel
theorem zd_L_value_15 : decode zc_L_value 15 = .ok (.lconst 1, 1) := by decide +kernel
theorem zd_L_value_16 : decode zc_L_value 16 = .ok (.goto 4, 3) := by decide +kernel
theorem zd_L_value_19 : decode zc_L_value 19 = .ok (.lconst 0, 1) := by decide +kernel
theorem zd_L_value_20 : decode zc_L_value 20 = .ok (.lastore, 1) := by decide +kernel
theorem zd_L_value_21 : decode zc_L_value 21 = .ok (.goto 11, 3) := by decide +kernel
theorem zd_L_value_24 : decode zc_L_value 24 = .ok (.astore 7, 2) := by decide +kernel
theorem zd_L_value_26 : decode zc_L_value 26 = .ok (.iconst 1, 1) := by decide +kernel
theorem zd_L_value_27 : decode zc_L_value 27 = .ok (.ireturn, 1) := by decide +kernel
theorem zd_L_value_28 : decode zc_L_value 28 = .ok (.astore 7, 2) := by decide +kernel
theorem zd_L_value_30 : decode zc_L_value 30 = .ok (.iconst 2, 1) := by decide +kernel
theorem zd_L_value_31 : decode zc_L_value 31 = .ok (.ireturn, 1) := by decide +kernel
theorem zd_L_value_32 : decode zc_L_value 32 = .ok (.iconst 0, 1) := by decide +kernel
theorem zd_L_value_33 : decode zc_L_value 33 = .ok (.ireturn, 1) := by decide +kernel
theorem zd_L_faults_0 : decode zc_L_faults 0 = .ok (.aload_n 3, 1) := by decide +kernel
theorem zd_L_faults_1 : decode zc_L_faults 1 = .ok (.iconst 0, 1) := by decide +kernel
theorem zd_L_faults_2 : decode zc_L_faults 2 = .ok (.aload_n 0, 1) := by decide +kernel
theorem zd_L_faults_3 : decode zc_L_faults 3 = .ok (.iload_n 1, 1) := by decide +kernel
theorem zd_L_faults_4 : decode zc_L_faults 4 = .ok (.iload_n 2, 1) := by decide +kernel
theorem zd_L_faults_5 : decode zc_L_faults 5 = .ok (.invokevirtual 17, 3) := by decide +kernel
theorem zd_L_faults_8 : decode zc_L_faults 8 = .ok (.ifCond .eq 7, 3) := by decide +kernel
theorem zd_L_faults_11 : decode zc_L_faults 11 = .ok (.lconst 1, 1) := by decide +kernel
theorem zd_L_faults_12 : decode zc_L_faults 12 = .ok (.goto 4, 3) := by decide +kernel
theorem zd_L_faults_15 : decode zc_L_faults 15 = .ok (.lconst 0, 1) := by decide +kernel
theorem zd_L_faults_16 : decode zc_L_faults 16 = .ok (.lastore, 1) := by decide +kernel
theorem zd_L_faults_17 : decode zc_L_faults 17 = .ok (.goto 11, 3) := by decide +kernel
theorem zd_L_faults_20 : decode zc_L_faults 20 = .ok (.astore 4, 2) := by decide +kernel
theorem zd_L_faults_22 : decode zc_L_faults 22 = .ok (.iconst 1, 1) := by decide +kernel
theorem zd_L_faults_23 : decode zc_L_faults 23 = .ok (.ireturn, 1) := by decide +kernel
theorem zd_L_faults_24 : decode zc_L_faults 24 = .ok (.astore 4, 2) := by decide +kernel
theorem zd_L_faults_26 : decode zc_L_faults 26 = .ok (.iconst 2, 1) := by decide +kernel
theorem zd_L_faults_27 : decode zc_L_faults 27 = .ok (.ireturn, 1) := by decide +kernel
theorem zd_L_faults_28 : decode zc_L_faults 28 = .ok (.iconst 0, 1) := by decide +kernel
theorem zd_L_faults_29 : decode zc_L_faults 29 = .ok (.ireturn, 1) := by decide +kernel
theorem zd_L_run_0 : decode zc_L_run 0 = .ok (.aload 5, 2) := by decide +kernel
theorem zd_L_run_2 : decode zc_L_run 2 = .ok (.iconst 0, 1) := by decide +kernel
theorem zd_L_run_3 : decode zc_L_run 3 = .ok (.aload_n 0, 1) := by decide +kernel
theorem zd_L_run_4 : decode zc_L_run 4 = .ok (.iload_n 1, 1) := by decide +kernel
theorem zd_L_run_5 : decode zc_L_run 5 = .ok (.lload_n 2, 1) := by decide +kernel
theorem zd_L_run_6 : decode zc_L_run 6 = .ok (.iload 4, 2) := by decide +kernel
theorem zd_L_run_8 : decode zc_L_run 8 = .ok (.invokevirtual 21, 3) := by decide +kernel
theorem zd_L_run_11 : decode zc_L_run 11 = .ok (.i2l, 1) := by decide +kernel
theorem zd_L_run_12 : decode zc_L_run 12 = .ok (.lastore, 1) := by decide +kernel
theorem zd_L_run_13 : decode zc_L_run 13 = .ok (.goto 7, 3) := by decide +kernel
theorem zd_L_run_16 : decode zc_L_run 16 = .ok (.astore 6, 2) := by decide +kernel
theorem zd_L_run_18 : decode zc_L_run 18 = .ok (.iconst 1, 1) := by decide +kernel
theorem zd_L_run_19 : decode zc_L_run 19 = .ok (.ireturn, 1) := by decide +kernel
theorem zd_L_run_20 : decode zc_L_run 20 = .ok (.iconst 0, 1) := by decide +kernel
theorem zd_L_run_21 : decode zc_L_run 21 = .ok (.ireturn, 1) := by decide +kernel
theorem zd_L_answer_0 : decode zc_L_answer 0 = .ok (.aload_n 1, 1) := by decide +kernel
theorem zd_L_answer_1 : decode zc_L_answer 1 = .ok (.iconst 0, 1) := by decide +kernel
theorem zd_L_answer_2 : decode zc_L_answer 2 = .ok (.aload_n 0, 1) := by decide +kernel
theorem zd_L_answer_3 : decode zc_L_answer 3 = .ok (.invokevirtual 25, 3) := by decide +kernel
theorem zd_L_answer_6 : decode zc_L_answer 6 = .ok (.lastore, 1) := by decide +kernel
theorem zd_L_answer_7 : decode zc_L_answer 7 = .ok (.goto 6, 3) := by decide +kernel
theorem zd_L_answer_10 : decode zc_L_answer 10 = .ok (.astore_n 2, 1) := by decide +kernel
theorem zd_L_answer_11 : decode zc_L_answer 11 = .ok (.iconst 1, 1) := by decide +kernel
theorem zd_L_answer_12 : decode zc_L_answer 12 = .ok (.ireturn, 1) := by decide +kernel
theorem zd_L_answer_13 : decode zc_L_answer 13 = .ok (.iconst 0, 1) := by decide +kernel
theorem zd_L_answer_14 : decode zc_L_answer 14 = .ok (.ireturn, 1) := by decide +kernel
theorem zd_L_ticks_0 : decode zc_L_ticks 0 = .ok (.aload_n 2, 1) := by decide +kernel
theorem zd_L_ticks_1 : decode zc_L_ticks 1 = .ok (.iconst 0, 1) := by decide +kernel
theorem zd_L_ticks_2 : decode zc_L_ticks 2 = .ok (.aload_n 0, 1) := by decide +kernel
theorem zd_L_ticks_3 : decode zc_L_ticks 3 = .ok (.iload_n 1, 1) := by decide +kernel
theorem zd_L_ticks_4 : decode zc_L_ticks 4 = .ok (.invokevirtual 31, 3) := by decide +kernel
theorem zd_L_ticks_7 : decode zc_L_ticks 7 = .ok (.i2l, 1) := by decide +kernel
theorem zd_L_ticks_8 : decode zc_L_ticks 8 = .ok (.lastore, 1) := by decide +kernel
theorem zd_L_ticks_9 : decode zc_L_ticks 9 = .ok (.goto 6, 3) := by decide +kernel
theorem zd_L_ticks_12 : decode zc_L_ticks 12 = .ok (.astore_n 3, 1) := by decide +kernel
theorem zd_L_ticks_13 : decode zc_L_ticks 13 = .ok (.iconst 1, 1) := by decide +kernel
theorem zd_L_ticks_14 : decode zc_L_ticks 14 = .ok (.ireturn, 1) := by decide +kernel
theorem zd_L_ticks_15 : decode zc_L_ticks 15 = .ok (.iconst 0, 1) := by decide +kernel
theorem zd_L_ticks_16 : decode zc_L_ticks 16 = .ok (.ireturn, 1) := by decide +kernel
theorem zd_L_worked_0 : decode zc_L_worked 0 = .ok (.aload_n 2, 1) := by decide +kernel
theorem zd_L_worked_1 : decode zc_L_worked 1 = .ok (.iconst 0, 1) := by decide +kernel
theorem zd_L_worked_2 : decode zc_L_worked 2 = .ok (.aload_n 0, 1) := by decide +kernel
theorem zd_L_worked_3 : decode zc_L_worked 3 = .ok (.iload_n 1, 1) := by decide +kernel
theorem zd_L_worked_4 : decode zc_L_worked 4 = .ok (.invokevirtual 35, 3) := by decide +kernel
theorem zd_L_worked_7 : decode zc_L_worked 7 = .ok (.i2l, 1) := by decide +kernel
theorem zd_L_worked_8 : decode zc_L_worked 8 = .ok (.lastore, 1) := by decide +kernel
theorem zd_L_worked_9 : decode zc_L_worked 9 = .ok (.goto 9, 3) := by decide +kernel
theorem zd_L_worked_12 : decode zc_L_worked 12 = .ok (.astore_n 3, 1) := by decide +kernel
theorem zd_L_worked_13 : decode zc_L_worked 13 = .ok (.iconst 1, 1) := by decide +kernel
theorem zd_L_worked_14 : decode zc_L_worked 14 = .ok (.ireturn, 1) := by decide +kernel
theorem zd_L_worked_15 : decode zc_L_worked 15 = .ok (.astore_n 3, 1) := by decide +kernel
theorem zd_L_worked_16 : decode zc_L_worked 16 = .ok (.iconst 2, 1) := by decide +kernel
theorem zd_L_worked_17 : decode zc_L_worked 17 = .ok (.ireturn, 1) := by decide +kernel
theorem zd_L_worked_18 : decode zc_L_worked 18 = .ok (.iconst 0, 1) := by decide +kernel
theorem zd_L_worked_19 : decode zc_L_worked 19 = .ok (.ireturn, 1) := by decide +kernel
theorem zd_L_done_0 : decode zc_L_done 0 = .ok (.aload_n 2, 1) := by decide +kernel
theorem zd_L_done_1 : decode zc_L_done 1 = .ok (.iconst 0, 1) := by decide +kernel
theorem zd_L_done_2 : decode zc_L_done 2 = .ok (.aload_n 0, 1) := by decide +kernel
theorem zd_L_done_3 : decode zc_L_done 3 = .ok (.iload_n 1, 1) := by decide +kernel
theorem zd_L_done_4 : decode zc_L_done 4 = .ok (.invokevirtual 38, 3) := by decide +kernel
theorem zd_L_done_7 : decode zc_L_done 7 = .ok (.i2l, 1) := by decide +kernel
theorem zd_L_done_8 : decode zc_L_done 8 = .ok (.lastore, 1) := by decide +kernel
theorem zd_L_done_9 : decode zc_L_done 9 = .ok (.goto 9, 3) := by decide +kernel
theorem zd_L_done_12 : decode zc_L_done 12 = .ok (.astore_n 3, 1) := by decide +kernel
theorem zd_L_done_13 : decode zc_L_done 13 = .ok (.iconst 1, 1) := by decide +kernel
theorem zd_L_done_14 : decode zc_L_done 14 = .ok (.ireturn, 1) := by decide +kernel
theorem zd_L_done_15 : decode zc_L_done 15 = .ok (.astore_n 3, 1) := by decide +kernel
theorem zd_L_done_16 : decode zc_L_done 16 = .ok (.iconst 2, 1) := by decide +kernel
theorem zd_L_done_17 : decode zc_L_done 17 = .ok (.ireturn, 1) := by decide +kernel
theorem zd_L_done_18 : decode zc_L_done 18 = .ok (.iconst 0, 1) := by decide +kernel
theorem zd_L_done_19 : decode zc_L_done 19 = .ok (.ireturn, 1) := by decide +kernel
theorem zd_L_by_0 : decode zc_L_by 0 = .ok (.aload_n 2, 1) := by decide +kernel
theorem zd_L_by_1 : decode zc_L_by 1 = .ok (.iconst 0, 1) := by decide +kernel
theorem zd_L_by_2 : decode zc_L_by 2 = .ok (.aload_n 0, 1) := by decide +kernel
theorem zd_L_by_3 : decode zc_L_by 3 = .ok (.iload_n 1, 1) := by decide +kernel
theorem zd_L_by_4 : decode zc_L_by 4 = .ok (.invokevirtual 41, 3) := by decide +kernel
theorem zd_L_by_7 : decode zc_L_by 7 = .ok (.i2l, 1) := by decide +kernel
theorem zd_L_by_8 : decode zc_L_by 8 = .ok (.lastore, 1) := by decide +kernel
theorem zd_L_by_9 : decode zc_L_by 9 = .ok (.goto 9, 3) := by decide +kernel
theorem zd_L_by_12 : decode zc_L_by 12 = .ok (.astore_n 3, 1) := by decide +kernel
theorem zd_L_by_13 : decode zc_L_by 13 = .ok (.iconst 1, 1) := by decide +kernel
theorem zd_L_by_14 : decode zc_L_by 14 = .ok (.ireturn, 1) := by decide +kernel
theorem zd_L_by_15 : decode zc_L_by 15 = .ok (.astore_n 3, 1) := by decide +kernel
theorem zd_L_by_16 : decode zc_L_by 16 = .ok (.iconst 2, 1) := by decide +kernel
theorem zd_L_by_17 : decode zc_L_by 17 = .ok (.ireturn, 1) := by decide +kernel
theorem zd_L_by_18 : decode zc_L_by 18 = .ok (.iconst 0, 1) := by decide +kernel
theorem zd_L_by_19 : decode zc_L_by 19 = .ok (.ireturn, 1) := by decide +kernel
theorem zd_L_failed_0 : decode zc_L_failed 0 = .ok (.aload_n 2, 1) := by decide +kernel
theorem zd_L_failed_1 : decode zc_L_failed 1 = .ok (.iconst 0, 1) := by decide +kernel
theorem zd_L_failed_2 : decode zc_L_failed 2 = .ok (.aload_n 0, 1) := by decide +kernel
theorem zd_L_failed_3 : decode zc_L_failed 3 = .ok (.iload_n 1, 1) := by decide +kernel
theorem zd_L_failed_4 : decode zc_L_failed 4 = .ok (.invokevirtual 44, 3) := by decide +kernel
theorem zd_L_failed_7 : decode zc_L_failed 7 = .ok (.i2l, 1) := by decide +kernel
theorem zd_L_failed_8 : decode zc_L_failed 8 = .ok (.lastore, 1) := by decide +kernel
theorem zd_L_failed_9 : decode zc_L_failed 9 = .ok (.goto 9, 3) := by decide +kernel
theorem zd_L_failed_12 : decode zc_L_failed 12 = .ok (.astore_n 3, 1) := by decide +kernel
theorem zd_L_failed_13 : decode zc_L_failed 13 = .ok (.iconst 1, 1) := by decide +kernel
theorem zd_L_failed_14 : decode zc_L_failed 14 = .ok (.ireturn, 1) := by decide +kernel
theorem zd_L_failed_15 : decode zc_L_failed 15 = .ok (.astore_n 3, 1) := by decide +kernel
theorem zd_L_failed_16 : decode zc_L_failed 16 = .ok (.iconst 2, 1) := by decide +kernel
theorem zd_L_failed_17 : decode zc_L_failed 17 = .ok (.ireturn, 1) := by decide +kernel
theorem zd_L_failed_18 : decode zc_L_failed 18 = .ok (.iconst 0, 1) := by decide +kernel
theorem zd_L_failed_19 : decode zc_L_failed 19 = .ok (.ireturn, 1) := by decide +kernel
theorem zd_L_at_0 : decode zc_L_at 0 = .ok (.aload_n 2, 1) := by decide +kernel
theorem zd_L_at_1 : decode zc_L_at 1 = .ok (.iconst 0, 1) := by decide +kernel
theorem zd_L_at_2 : decode zc_L_at 2 = .ok (.aload_n 0, 1) := by decide +kernel
theorem zd_L_at_3 : decode zc_L_at 3 = .ok (.iload_n 1, 1) := by decide +kernel
theorem zd_L_at_4 : decode zc_L_at 4 = .ok (.invokevirtual 47, 3) := by decide +kernel
theorem zd_L_at_7 : decode zc_L_at 7 = .ok (.i2l, 1) := by decide +kernel
theorem zd_L_at_8 : decode zc_L_at 8 = .ok (.lastore, 1) := by decide +kernel
theorem zd_L_at_9 : decode zc_L_at 9 = .ok (.goto 9, 3) := by decide +kernel
theorem zd_L_at_12 : decode zc_L_at 12 = .ok (.astore_n 3, 1) := by decide +kernel
theorem zd_L_at_13 : decode zc_L_at 13 = .ok (.iconst 1, 1) := by decide +kernel
theorem zd_L_at_14 : decode zc_L_at 14 = .ok (.ireturn, 1) := by decide +kernel
theorem zd_L_at_15 : decode zc_L_at 15 = .ok (.astore_n 3, 1) := by decide +kernel
theorem zd_L_at_16 : decode zc_L_at 16 = .ok (.iconst 2, 1) := by decide +kernel
theorem zd_L_at_17 : decode zc_L_at 17 = .ok (.ireturn, 1) := by decide +kernel
theorem zd_L_at_18 : decode zc_L_at 18 = .ok (.iconst 0, 1) := by decide +kernel
theorem zd_L_at_19 : decode zc_L_at 19 = .ok (.ireturn, 1) := by decide +kernel
theorem zd_F_fill_0 : decode zc_F_fill 0 = .ok (.iconst 0, 1) := by decide +kernel
theorem zd_F_fill_1 : decode zc_F_fill 1 = .ok (.istore_n 2, 1) := by decide +kernel
theorem zd_F_fill_2 : decode zc_F_fill 2 = .ok (.aload_n 0, 1) := by decide +kernel
theorem zd_F_fill_3 : decode zc_F_fill 3 = .ok (.arraylength, 1) := by decide +kernel
theorem zd_F_fill_4 : decode zc_F_fill 4 = .ok (.istore_n 3, 1) := by decide +kernel
theorem zd_F_fill_5 : decode zc_F_fill 5 = .ok (.iload_n 2, 1) := by decide +kernel
theorem zd_F_fill_6 : decode zc_F_fill 6 = .ok (.iload_n 3, 1) := by decide +kernel
theorem zd_F_fill_7 : decode zc_F_fill 7 = .ok (.if_icmp .ge 13, 3) := by decide +kernel
theorem zd_F_fill_10 : decode zc_F_fill 10 = .ok (.aload_n 0, 1) := by decide +kernel
theorem zd_F_fill_11 : decode zc_F_fill 11 = .ok (.iload_n 2, 1) := by decide +kernel
theorem zd_F_fill_12 : decode zc_F_fill 12 = .ok (.iload_n 1, 1) := by decide +kernel
theorem zd_F_fill_13 : decode zc_F_fill 13 = .ok (.iastore, 1) := by decide +kernel
theorem zd_F_fill_14 : decode zc_F_fill 14 = .ok (.iinc 2 1, 3) := by decide +kernel
theorem zd_F_fill_17 : decode zc_F_fill 17 = .ok (.goto (-12), 3) := by decide +kernel
theorem zd_F_fill_20 : decode zc_F_fill 20 = .ok (.return_, 1) := by decide +kernel
end
section
theorem zd_L_law_0 : decode zc_L_law 0 = .ok (.new 8, 3) := by decide +kernel
theorem zd_L_law_3 : decode zc_L_law 3 = .ok (.dup, 1) := by decide +kernel
theorem zd_L_law_4 : decode zc_L_law 4 = .ok (.aload_n 0, 1) := by decide +kernel
theorem zd_L_law_5 : decode zc_L_law 5 = .ok (.iconst 0, 1) := by decide +kernel
theorem zd_L_law_6 : decode zc_L_law 6 = .ok (.invokestatic 50, 3) := by decide +kernel
theorem zd_L_law_9 : decode zc_L_law 9 = .ok (.invokespecial 56, 3) := by decide +kernel
theorem zd_L_law_12 : decode zc_L_law 12 = .ok (.astore_n 1, 1) := by decide +kernel
theorem zd_L_law_13 : decode zc_L_law 13 = .ok (.new 59, 3) := by decide +kernel
theorem zd_L_law_16 : decode zc_L_law 16 = .ok (.dup, 1) := by decide +kernel
theorem zd_L_law_17 : decode zc_L_law 17 = .ok (.aload_n 0, 1) := by decide +kernel
theorem zd_L_law_18 : decode zc_L_law 18 = .ok (.iconst 0, 1) := by decide +kernel
theorem zd_L_law_19 : decode zc_L_law 19 = .ok (.invokestatic 50, 3) := by decide +kernel
theorem zd_L_law_22 : decode zc_L_law 22 = .ok (.invokespecial 61, 3) := by decide +kernel
theorem zd_L_law_25 : decode zc_L_law 25 = .ok (.astore_n 2, 1) := by decide +kernel
theorem zd_L_law_26 : decode zc_L_law 26 = .ok (.iconst 1, 1) := by decide +kernel
theorem zd_L_law_27 : decode zc_L_law 27 = .ok (.newarray .long, 2) := by decide +kernel
theorem zd_L_law_29 : decode zc_L_law 29 = .ok (.astore_n 3, 1) := by decide +kernel
theorem zd_L_law_30 : decode zc_L_law 30 = .ok (.iconst 1, 1) := by decide +kernel
theorem zd_L_law_31 : decode zc_L_law 31 = .ok (.istore 4, 2) := by decide +kernel
theorem zd_L_law_33 : decode zc_L_law 33 = .ok (.iload 4, 2) := by decide +kernel
theorem zd_L_law_35 : decode zc_L_law 35 = .ok (.aload_n 0, 1) := by decide +kernel
theorem zd_L_law_36 : decode zc_L_law 36 = .ok (.arraylength, 1) := by decide +kernel
theorem zd_L_law_37 : decode zc_L_law 37 = .ok (.bipush 6, 2) := by decide +kernel
theorem zd_L_law_39 : decode zc_L_law 39 = .ok (.isub, 1) := by decide +kernel
theorem zd_L_law_40 : decode zc_L_law 40 = .ok (.if_icmp .gt 800, 3) := by decide +kernel
theorem zd_L_law_43 : decode zc_L_law 43 = .ok (.aload_n 0, 1) := by decide +kernel
theorem zd_L_law_44 : decode zc_L_law 44 = .ok (.iload 4, 2) := by decide +kernel
theorem zd_L_law_46 : decode zc_L_law 46 = .ok (.iaload, 1) := by decide +kernel
theorem zd_L_law_47 : decode zc_L_law 47 = .ok (.bipush 15, 2) := by decide +kernel
theorem zd_L_law_49 : decode zc_L_law 49 = .ok (.iand, 1) := by decide +kernel
theorem zd_L_law_50 : decode zc_L_law 50 = .ok (.tableswitch 784 0 10 #[58, 205, 280, 392, 435, 491, 547, 603, 659, 715, 771], 58) := by decide +kernel
theorem zd_L_law_108 : decode zc_L_law 108 = .ok (.aload_n 1, 1) := by decide +kernel
theorem zd_L_law_109 : decode zc_L_law 109 = .ok (.aload_n 0, 1) := by decide +kernel
theorem zd_L_law_110 : decode zc_L_law 110 = .ok (.iload 4, 2) := by decide +kernel
theorem zd_L_law_112 : decode zc_L_law 112 = .ok (.iconst 1, 1) := by decide +kernel
theorem zd_L_law_113 : decode zc_L_law 113 = .ok (.iadd, 1) := by decide +kernel
theorem zd_L_law_114 : decode zc_L_law 114 = .ok (.iaload, 1) := by decide +kernel
theorem zd_L_law_115 : decode zc_L_law 115 = .ok (.aload_n 0, 1) := by decide +kernel
theorem zd_L_law_116 : decode zc_L_law 116 = .ok (.iload 4, 2) := by decide +kernel
theorem zd_L_law_118 : decode zc_L_law 118 = .ok (.iconst 2, 1) := by decide +kernel
theorem zd_L_law_119 : decode zc_L_law 119 = .ok (.iadd, 1) := by decide +kernel
theorem zd_L_law_120 : decode zc_L_law 120 = .ok (.iaload, 1) := by decide +kernel
theorem zd_L_law_121 : decode zc_L_law 121 = .ok (.aload_n 0, 1) := by decide +kernel
theorem zd_L_law_122 : decode zc_L_law 122 = .ok (.iload 4, 2) := by decide +kernel
theorem zd_L_law_124 : decode zc_L_law 124 = .ok (.iconst 3, 1) := by decide +kernel
theorem zd_L_law_125 : decode zc_L_law 125 = .ok (.iadd, 1) := by decide +kernel
theorem zd_L_law_126 : decode zc_L_law 126 = .ok (.iaload, 1) := by decide +kernel
theorem zd_L_law_127 : decode zc_L_law 127 = .ok (.i2l, 1) := by decide +kernel
theorem zd_L_law_128 : decode zc_L_law 128 = .ok (.bipush 32, 2) := by decide +kernel
theorem zd_L_law_130 : decode zc_L_law 130 = .ok (.lshl, 1) := by decide +kernel
theorem zd_L_law_131 : decode zc_L_law 131 = .ok (.aload_n 0, 1) := by decide +kernel
theorem zd_L_law_132 : decode zc_L_law 132 = .ok (.iload 4, 2) := by decide +kernel
theorem zd_L_law_134 : decode zc_L_law 134 = .ok (.iconst 4, 1) := by decide +kernel
theorem zd_L_law_135 : decode zc_L_law 135 = .ok (.iadd, 1) := by decide +kernel
theorem zd_L_law_136 : decode zc_L_law 136 = .ok (.iaload, 1) := by decide +kernel
theorem zd_L_law_137 : decode zc_L_law 137 = .ok (.i2l, 1) := by decide +kernel
theorem zd_L_law_138 : decode zc_L_law 138 = .ok (.ldc2_w 62, 3) := by decide +kernel
theorem zd_L_law_141 : decode zc_L_law 141 = .ok (.land, 1) := by decide +kernel
theorem zd_L_law_142 : decode zc_L_law 142 = .ok (.lor, 1) := by decide +kernel
theorem zd_L_law_143 : decode zc_L_law 143 = .ok (.aload_n 0, 1) := by decide +kernel
theorem zd_L_law_144 : decode zc_L_law 144 = .ok (.iload 4, 2) := by decide +kernel
theorem zd_L_law_146 : decode zc_L_law 146 = .ok (.iconst 5, 1) := by decide +kernel
theorem zd_L_law_147 : decode zc_L_law 147 = .ok (.iadd, 1) := by decide +kernel
theorem zd_L_law_148 : decode zc_L_law 148 = .ok (.iaload, 1) := by decide +kernel
theorem zd_L_law_149 : decode zc_L_law 149 = .ok (.ifCond .eq 7, 3) := by decide +kernel
theorem zd_L_law_152 : decode zc_L_law 152 = .ok (.iconst 1, 1) := by decide +kernel
theorem zd_L_law_153 : decode zc_L_law 153 = .ok (.goto 4, 3) := by decide +kernel
theorem zd_L_law_156 : decode zc_L_law 156 = .ok (.iconst 0, 1) := by decide +kernel
theorem zd_L_law_157 : decode zc_L_law 157 = .ok (.aload_n 3, 1) := by decide +kernel
theorem zd_L_law_158 : decode zc_L_law 158 = .ok (.invokestatic 64, 3) := by decide +kernel
theorem zd_L_law_161 : decode zc_L_law 161 = .ok (.istore 5, 2) := by decide +kernel
theorem zd_L_law_163 : decode zc_L_law 163 = .ok (.aload_n 2, 1) := by decide +kernel
theorem zd_L_law_164 : decode zc_L_law 164 = .ok (.aload_n 0, 1) := by decide +kernel
theorem zd_L_law_165 : decode zc_L_law 165 = .ok (.iload 4, 2) := by decide +kernel
theorem zd_L_law_167 : decode zc_L_law 167 = .ok (.iconst 1, 1) := by decide +kernel
theorem zd_L_law_168 : decode zc_L_law 168 = .ok (.iadd, 1) := by decide +kernel
theorem zd_L_law_169 : decode zc_L_law 169 = .ok (.iaload, 1) := by decide +kernel
theorem zd_L_law_170 : decode zc_L_law 170 = .ok (.aload_n 0, 1) := by decide +kernel
theorem zd_L_law_171 : decode zc_L_law 171 = .ok (.iload 4, 2) := by decide +kernel
theorem zd_L_law_173 : decode zc_L_law 173 = .ok (.iconst 2, 1) := by decide +kernel
theorem zd_L_law_174 : decode zc_L_law 174 = .ok (.iadd, 1) := by decide +kernel
theorem zd_L_law_175 : decode zc_L_law 175 = .ok (.iaload, 1) := by decide +kernel
theorem zd_L_law_176 : decode zc_L_law 176 = .ok (.aload_n 0, 1) := by decide +kernel
theorem zd_L_law_177 : decode zc_L_law 177 = .ok (.iload 4, 2) := by decide +kernel
theorem zd_L_law_179 : decode zc_L_law 179 = .ok (.iconst 3, 1) := by decide +kernel
theorem zd_L_law_180 : decode zc_L_law 180 = .ok (.iadd, 1) := by decide +kernel
theorem zd_L_law_181 : decode zc_L_law 181 = .ok (.iaload, 1) := by decide +kernel
theorem zd_L_law_182 : decode zc_L_law 182 = .ok (.i2l, 1) := by decide +kernel
theorem zd_L_law_183 : decode zc_L_law 183 = .ok (.bipush 32, 2) := by decide +kernel
theorem zd_L_law_185 : decode zc_L_law 185 = .ok (.lshl, 1) := by decide +kernel
theorem zd_L_law_186 : decode zc_L_law 186 = .ok (.aload_n 0, 1) := by decide +kernel
theorem zd_L_law_187 : decode zc_L_law 187 = .ok (.iload 4, 2) := by decide +kernel
theorem zd_L_law_189 : decode zc_L_law 189 = .ok (.iconst 4, 1) := by decide +kernel
theorem zd_L_law_190 : decode zc_L_law 190 = .ok (.iadd, 1) := by decide +kernel
theorem zd_L_law_191 : decode zc_L_law 191 = .ok (.iaload, 1) := by decide +kernel
theorem zd_L_law_192 : decode zc_L_law 192 = .ok (.i2l, 1) := by decide +kernel
theorem zd_L_law_193 : decode zc_L_law 193 = .ok (.ldc2_w 62, 3) := by decide +kernel
theorem zd_L_law_196 : decode zc_L_law 196 = .ok (.land, 1) := by decide +kernel
theorem zd_L_law_197 : decode zc_L_law 197 = .ok (.lor, 1) := by decide +kernel
theorem zd_L_law_198 : decode zc_L_law 198 = .ok (.aload_n 0, 1) := by decide +kernel
theorem zd_L_law_199 : decode zc_L_law 199 = .ok (.iload 4, 2) := by decide +kernel
theorem zd_L_law_201 : decode zc_L_law 201 = .ok (.iconst 5, 1) := by decide +kernel
theorem zd_L_law_202 : decode zc_L_law 202 = .ok (.iadd, 1) := by decide +kernel
theorem zd_L_law_203 : decode zc_L_law 203 = .ok (.iaload, 1) := by decide +kernel
theorem zd_L_law_204 : decode zc_L_law 204 = .ok (.ifCond .eq 7, 3) := by decide +kernel
theorem zd_L_law_207 : decode zc_L_law 207 = .ok (.iconst 1, 1) := by decide +kernel
theorem zd_L_law_208 : decode zc_L_law 208 = .ok (.goto 4, 3) := by decide +kernel
theorem zd_L_law_211 : decode zc_L_law 211 = .ok (.iconst 0, 1) := by decide +kernel
theorem zd_L_law_212 : decode zc_L_law 212 = .ok (.invokevirtual 67, 3) := by decide +kernel
theorem zd_L_law_215 : decode zc_L_law 215 = .ok (.istore 6, 2) := by decide +kernel
theorem zd_L_law_217 : decode zc_L_law 217 = .ok (.aload_n 2, 1) := by decide +kernel
theorem zd_L_law_218 : decode zc_L_law 218 = .ok (.invokevirtual 68, 3) := by decide +kernel
theorem zd_L_law_221 : decode zc_L_law 221 = .ok (.iload 5, 2) := by decide +kernel
theorem zd_L_law_223 : decode zc_L_law 223 = .ok (.if_icmp .eq 5, 3) := by decide +kernel
theorem zd_L_law_226 : decode zc_L_law 226 = .ok (.iconst 0, 1) := by decide +kernel
theorem zd_L_law_227 : decode zc_L_law 227 = .ok (.ireturn, 1) := by decide +kernel
theorem zd_L_law_228 : decode zc_L_law 228 = .ok (.iload 5, 2) := by decide +kernel
theorem zd_L_law_230 : decode zc_L_law 230 = .ok (.ifCond .ne 22, 3) := by decide +kernel
theorem zd_L_law_233 : decode zc_L_law 233 = .ok (.aload_n 3, 1) := by decide +kernel
theorem zd_L_law_234 : decode zc_L_law 234 = .ok (.iconst 0, 1) := by decide +kernel
theorem zd_L_law_235 : decode zc_L_law 235 = .ok (.laload, 1) := by decide +kernel
theorem zd_L_law_236 : decode zc_L_law 236 = .ok (.iload 6, 2) := by decide +kernel
theorem zd_L_law_238 : decode zc_L_law 238 = .ok (.ifCond .eq 7, 3) := by decide +kernel
theorem zd_L_law_241 : decode zc_L_law 241 = .ok (.lconst 1, 1) := by decide +kernel
theorem zd_L_law_242 : decode zc_L_law 242 = .ok (.goto 4, 3) := by decide +kernel
theorem zd_L_law_245 : decode zc_L_law 245 = .ok (.lconst 0, 1) := by decide +kernel
theorem zd_L_law_246 : decode zc_L_law 246 = .ok (.lcmp, 1) := by decide +kernel
theorem zd_L_law_247 : decode zc_L_law 247 = .ok (.ifCond .eq 5, 3) := by decide +kernel
theorem zd_L_law_250 : decode zc_L_law 250 = .ok (.iconst 0, 1) := by decide +kernel
theorem zd_L_law_251 : decode zc_L_law 251 = .ok (.ireturn, 1) := by decide +kernel
theorem zd_L_law_252 : decode zc_L_law 252 = .ok (.goto 582, 3) := by decide +kernel
theorem zd_L_law_255 : decode zc_L_law 255 = .ok (.aload_n 1, 1) := by decide +kernel
theorem zd_L_law_256 : decode zc_L_law 256 = .ok (.aload_n 0, 1) := by decide +kernel
theorem zd_L_law_257 : decode zc_L_law 257 = .ok (.iload 4, 2) := by decide +kernel
theorem zd_L_law_259 : decode zc_L_law 259 = .ok (.iconst 1, 1) := by decide +kernel
theorem zd_L_law_260 : decode zc_L_law 260 = .ok (.iadd, 1) := by decide +kernel
theorem zd_L_law_261 : decode zc_L_law 261 = .ok (.iaload, 1) := by decide +kernel
theorem zd_L_law_262 : decode zc_L_law 262 = .ok (.aload_n 0, 1) := by decide +kernel
theorem zd_L_law_263 : decode zc_L_law 263 = .ok (.iload 4, 2) := by decide +kernel
theorem zd_L_law_265 : decode zc_L_law 265 = .ok (.iconst 2, 1) := by decide +kernel
theorem zd_L_law_266 : decode zc_L_law 266 = .ok (.iadd, 1) := by decide +kernel
theorem zd_L_law_267 : decode zc_L_law 267 = .ok (.iaload, 1) := by decide +kernel
theorem zd_L_law_268 : decode zc_L_law 268 = .ok (.aload_n 3, 1) := by decide +kernel
theorem zd_L_law_269 : decode zc_L_law 269 = .ok (.invokestatic 72, 3) := by decide +kernel
theorem zd_L_law_272 : decode zc_L_law 272 = .ok (.istore 5, 2) := by decide +kernel
theorem zd_L_law_274 : decode zc_L_law 274 = .ok (.aload_n 2, 1) := by decide +kernel
theorem zd_L_law_275 : decode zc_L_law 275 = .ok (.aload_n 0, 1) := by decide +kernel
theorem zd_L_law_276 : decode zc_L_law 276 = .ok (.iload 4, 2) := by decide +kernel
theorem zd_L_law_278 : decode zc_L_law 278 = .ok (.iconst 1, 1) := by decide +kernel
theorem zd_L_law_279 : decode zc_L_law 279 = .ok (.iadd, 1) := by decide +kernel
theorem zd_L_law_280 : decode zc_L_law 280 = .ok (.iaload, 1) := by decide +kernel
theorem zd_L_law_281 : decode zc_L_law 281 = .ok (.aload_n 0, 1) := by decide +kernel
theorem zd_L_law_282 : decode zc_L_law 282 = .ok (.iload 4, 2) := by decide +kernel
theorem zd_L_law_284 : decode zc_L_law 284 = .ok (.iconst 2, 1) := by decide +kernel
theorem zd_L_law_285 : decode zc_L_law 285 = .ok (.iadd, 1) := by decide +kernel
theorem zd_L_law_286 : decode zc_L_law 286 = .ok (.iaload, 1) := by decide +kernel
theorem zd_L_law_287 : decode zc_L_law 287 = .ok (.invokevirtual 75, 3) := by decide +kernel
theorem zd_L_law_290 : decode zc_L_law 290 = .ok (.istore 6, 2) := by decide +kernel
theorem zd_L_law_292 : decode zc_L_law 292 = .ok (.aload_n 2, 1) := by decide +kernel
theorem zd_L_law_293 : decode zc_L_law 293 = .ok (.invokevirtual 68, 3) := by decide +kernel
theorem zd_L_law_296 : decode zc_L_law 296 = .ok (.iload 5, 2) := by decide +kernel
theorem zd_L_law_298 : decode zc_L_law 298 = .ok (.if_icmp .eq 5, 3) := by decide +kernel
theorem zd_L_law_301 : decode zc_L_law 301 = .ok (.iconst 0, 1) := by decide +kernel
theorem zd_L_law_302 : decode zc_L_law 302 = .ok (.ireturn, 1) := by decide +kernel
theorem zd_L_law_303 : decode zc_L_law 303 = .ok (.iload 5, 2) := by decide +kernel
theorem zd_L_law_305 : decode zc_L_law 305 = .ok (.ifCond .ne 22, 3) := by decide +kernel
theorem zd_L_law_308 : decode zc_L_law 308 = .ok (.aload_n 3, 1) := by decide +kernel
theorem zd_L_law_309 : decode zc_L_law 309 = .ok (.iconst 0, 1) := by decide +kernel
theorem zd_L_law_310 : decode zc_L_law 310 = .ok (.laload, 1) := by decide +kernel
theorem zd_L_law_311 : decode zc_L_law 311 = .ok (.iload 6, 2) := by decide +kernel
theorem zd_L_law_313 : decode zc_L_law 313 = .ok (.ifCond .eq 7, 3) := by decide +kernel
theorem zd_L_law_316 : decode zc_L_law 316 = .ok (.lconst 1, 1) := by decide +kernel
theorem zd_L_law_317 : decode zc_L_law 317 = .ok (.goto 4, 3) := by decide +kernel
theorem zd_L_law_320 : decode zc_L_law 320 = .ok (.lconst 0, 1) := by decide +kernel
theorem zd_L_law_321 : decode zc_L_law 321 = .ok (.lcmp, 1) := by decide +kernel
theorem zd_L_law_322 : decode zc_L_law 322 = .ok (.ifCond .eq 5, 3) := by decide +kernel
theorem zd_L_law_325 : decode zc_L_law 325 = .ok (.iconst 0, 1) := by decide +kernel
theorem zd_L_law_326 : decode zc_L_law 326 = .ok (.ireturn, 1) := by decide +kernel
theorem zd_L_law_327 : decode zc_L_law 327 = .ok (.goto 507, 3) := by decide +kernel
theorem zd_L_law_330 : decode zc_L_law 330 = .ok (.aload_n 1, 1) := by decide +kernel
theorem zd_L_law_331 : decode zc_L_law 331 = .ok (.aload_n 0, 1) := by decide +kernel
theorem zd_L_law_332 : decode zc_L_law 332 = .ok (.iload 4, 2) := by decide +kernel
theorem zd_L_law_334 : decode zc_L_law 334 = .ok (.iconst 1, 1) := by decide +kernel
theorem zd_L_law_335 : decode zc_L_law 335 = .ok (.iadd, 1) := by decide +kernel
theorem zd_L_law_336 : decode zc_L_law 336 = .ok (.iaload, 1) := by decide +kernel
theorem zd_L_law_337 : decode zc_L_law 337 = .ok (.aload_n 0, 1) := by decide +kernel
theorem zd_L_law_338 : decode zc_L_law 338 = .ok (.iload 4, 2) := by decide +kernel
theorem zd_L_law_340 : decode zc_L_law 340 = .ok (.iconst 2, 1) := by decide +kernel
theorem zd_L_law_341 : decode zc_L_law 341 = .ok (.iadd, 1) := by decide +kernel
theorem zd_L_law_342 : decode zc_L_law 342 = .ok (.iaload, 1) := by decide +kernel
theorem zd_L_law_343 : decode zc_L_law 343 = .ok (.i2l, 1) := by decide +kernel
theorem zd_L_law_344 : decode zc_L_law 344 = .ok (.bipush 32, 2) := by decide +kernel
theorem zd_L_law_346 : decode zc_L_law 346 = .ok (.lshl, 1) := by decide +kernel
theorem zd_L_law_347 : decode zc_L_law 347 = .ok (.aload_n 0, 1) := by decide +kernel
theorem zd_L_law_348 : decode zc_L_law 348 = .ok (.iload 4, 2) := by decide +kernel
theorem zd_L_law_350 : decode zc_L_law 350 = .ok (.iconst 3, 1) := by decide +kernel
theorem zd_L_law_351 : decode zc_L_law 351 = .ok (.iadd, 1) := by decide +kernel
theorem zd_L_law_352 : decode zc_L_law 352 = .ok (.iaload, 1) := by decide +kernel
theorem zd_L_law_353 : decode zc_L_law 353 = .ok (.i2l, 1) := by decide +kernel
theorem zd_L_law_354 : decode zc_L_law 354 = .ok (.ldc2_w 62, 3) := by decide +kernel
theorem zd_L_law_357 : decode zc_L_law 357 = .ok (.land, 1) := by decide +kernel
theorem zd_L_law_358 : decode zc_L_law 358 = .ok (.lor, 1) := by decide +kernel
theorem zd_L_law_359 : decode zc_L_law 359 = .ok (.aload_n 0, 1) := by decide +kernel
theorem zd_L_law_360 : decode zc_L_law 360 = .ok (.iload 4, 2) := by decide +kernel
theorem zd_L_law_362 : decode zc_L_law 362 = .ok (.iconst 4, 1) := by decide +kernel
theorem zd_L_law_363 : decode zc_L_law 363 = .ok (.iadd, 1) := by decide +kernel
theorem zd_L_law_364 : decode zc_L_law 364 = .ok (.iaload, 1) := by decide +kernel
theorem zd_L_law_365 : decode zc_L_law 365 = .ok (.aload_n 3, 1) := by decide +kernel
theorem zd_L_law_366 : decode zc_L_law 366 = .ok (.invokestatic 76, 3) := by decide +kernel
theorem zd_L_law_369 : decode zc_L_law 369 = .ok (.istore 5, 2) := by decide +kernel
theorem zd_L_law_371 : decode zc_L_law 371 = .ok (.aload_n 2, 1) := by decide +kernel
theorem zd_L_law_372 : decode zc_L_law 372 = .ok (.aload_n 0, 1) := by decide +kernel
theorem zd_L_law_373 : decode zc_L_law 373 = .ok (.iload 4, 2) := by decide +kernel
theorem zd_L_law_375 : decode zc_L_law 375 = .ok (.iconst 1, 1) := by decide +kernel
theorem zd_L_law_376 : decode zc_L_law 376 = .ok (.iadd, 1) := by decide +kernel
theorem zd_L_law_377 : decode zc_L_law 377 = .ok (.iaload, 1) := by decide +kernel
theorem zd_L_law_378 : decode zc_L_law 378 = .ok (.aload_n 0, 1) := by decide +kernel
theorem zd_L_law_379 : decode zc_L_law 379 = .ok (.iload 4, 2) := by decide +kernel
theorem zd_L_law_381 : decode zc_L_law 381 = .ok (.iconst 2, 1) := by decide +kernel
theorem zd_L_law_382 : decode zc_L_law 382 = .ok (.iadd, 1) := by decide +kernel
theorem zd_L_law_383 : decode zc_L_law 383 = .ok (.iaload, 1) := by decide +kernel
theorem zd_L_law_384 : decode zc_L_law 384 = .ok (.i2l, 1) := by decide +kernel
theorem zd_L_law_385 : decode zc_L_law 385 = .ok (.bipush 32, 2) := by decide +kernel
theorem zd_L_law_387 : decode zc_L_law 387 = .ok (.lshl, 1) := by decide +kernel
theorem zd_L_law_388 : decode zc_L_law 388 = .ok (.aload_n 0, 1) := by decide +kernel
theorem zd_L_law_389 : decode zc_L_law 389 = .ok (.iload 4, 2) := by decide +kernel
theorem zd_L_law_391 : decode zc_L_law 391 = .ok (.iconst 3, 1) := by decide +kernel
theorem zd_L_law_392 : decode zc_L_law 392 = .ok (.iadd, 1) := by decide +kernel
theorem zd_L_law_393 : decode zc_L_law 393 = .ok (.iaload, 1) := by decide +kernel
theorem zd_L_law_394 : decode zc_L_law 394 = .ok (.i2l, 1) := by decide +kernel
theorem zd_L_law_395 : decode zc_L_law 395 = .ok (.ldc2_w 62, 3) := by decide +kernel
theorem zd_L_law_398 : decode zc_L_law 398 = .ok (.land, 1) := by decide +kernel
theorem zd_L_law_399 : decode zc_L_law 399 = .ok (.lor, 1) := by decide +kernel
theorem zd_L_law_400 : decode zc_L_law 400 = .ok (.aload_n 0, 1) := by decide +kernel
theorem zd_L_law_401 : decode zc_L_law 401 = .ok (.iload 4, 2) := by decide +kernel
theorem zd_L_law_403 : decode zc_L_law 403 = .ok (.iconst 4, 1) := by decide +kernel
theorem zd_L_law_404 : decode zc_L_law 404 = .ok (.iadd, 1) := by decide +kernel
theorem zd_L_law_405 : decode zc_L_law 405 = .ok (.iaload, 1) := by decide +kernel
theorem zd_L_law_406 : decode zc_L_law 406 = .ok (.invokevirtual 79, 3) := by decide +kernel
theorem zd_L_law_409 : decode zc_L_law 409 = .ok (.istore 6, 2) := by decide +kernel
theorem zd_L_law_411 : decode zc_L_law 411 = .ok (.aload_n 2, 1) := by decide +kernel
theorem zd_L_law_412 : decode zc_L_law 412 = .ok (.invokevirtual 68, 3) := by decide +kernel
theorem zd_L_law_415 : decode zc_L_law 415 = .ok (.iload 5, 2) := by decide +kernel
theorem zd_L_law_417 : decode zc_L_law 417 = .ok (.if_icmp .eq 5, 3) := by decide +kernel
theorem zd_L_law_420 : decode zc_L_law 420 = .ok (.iconst 0, 1) := by decide +kernel
theorem zd_L_law_421 : decode zc_L_law 421 = .ok (.ireturn, 1) := by decide +kernel
theorem zd_L_law_422 : decode zc_L_law 422 = .ok (.iload 5, 2) := by decide +kernel
theorem zd_L_law_424 : decode zc_L_law 424 = .ok (.ifCond .ne 15, 3) := by decide +kernel
theorem zd_L_law_427 : decode zc_L_law 427 = .ok (.aload_n 3, 1) := by decide +kernel
theorem zd_L_law_428 : decode zc_L_law 428 = .ok (.iconst 0, 1) := by decide +kernel
theorem zd_L_law_429 : decode zc_L_law 429 = .ok (.laload, 1) := by decide +kernel
theorem zd_L_law_430 : decode zc_L_law 430 = .ok (.iload 6, 2) := by decide +kernel
theorem zd_L_law_432 : decode zc_L_law 432 = .ok (.i2l, 1) := by decide +kernel
theorem zd_L_law_433 : decode zc_L_law 433 = .ok (.lcmp, 1) := by decide +kernel
theorem zd_L_law_434 : decode zc_L_law 434 = .ok (.ifCond .eq 5, 3) := by decide +kernel
theorem zd_L_law_437 : decode zc_L_law 437 = .ok (.iconst 0, 1) := by decide +kernel
theorem zd_L_law_438 : decode zc_L_law 438 = .ok (.ireturn, 1) := by decide +kernel
theorem zd_L_law_439 : decode zc_L_law 439 = .ok (.goto 395, 3) := by decide +kernel
theorem zd_L_law_442 : decode zc_L_law 442 = .ok (.aload_n 1, 1) := by decide +kernel
theorem zd_L_law_443 : decode zc_L_law 443 = .ok (.aload_n 3, 1) := by decide +kernel
theorem zd_L_law_444 : decode zc_L_law 444 = .ok (.invokestatic 80, 3) := by decide +kernel
theorem zd_L_law_447 : decode zc_L_law 447 = .ok (.istore 5, 2) := by decide +kernel
theorem zd_L_law_449 : decode zc_L_law 449 = .ok (.aload_n 2, 1) := by decide +kernel
theorem zd_L_law_450 : decode zc_L_law 450 = .ok (.invokevirtual 83, 3) := by decide +kernel
theorem zd_L_law_453 : decode zc_L_law 453 = .ok (.lstore 6, 2) := by decide +kernel
theorem zd_L_law_455 : decode zc_L_law 455 = .ok (.aload_n 2, 1) := by decide +kernel
theorem zd_L_law_456 : decode zc_L_law 456 = .ok (.invokevirtual 68, 3) := by decide +kernel
theorem zd_L_law_459 : decode zc_L_law 459 = .ok (.iload 5, 2) := by decide +kernel
theorem zd_L_law_461 : decode zc_L_law 461 = .ok (.if_icmp .eq 5, 3) := by decide +kernel
theorem zd_L_law_464 : decode zc_L_law 464 = .ok (.iconst 0, 1) := by decide +kernel
theorem zd_L_law_465 : decode zc_L_law 465 = .ok (.ireturn, 1) := by decide +kernel
theorem zd_L_law_466 : decode zc_L_law 466 = .ok (.iload 5, 2) := by decide +kernel
theorem zd_L_law_468 : decode zc_L_law 468 = .ok (.ifCond .ne 14, 3) := by decide +kernel
theorem zd_L_law_471 : decode zc_L_law 471 = .ok (.aload_n 3, 1) := by decide +kernel
theorem zd_L_law_472 : decode zc_L_law 472 = .ok (.iconst 0, 1) := by decide +kernel
theorem zd_L_law_473 : decode zc_L_law 473 = .ok (.laload, 1) := by decide +kernel
theorem zd_L_law_474 : decode zc_L_law 474 = .ok (.lload 6, 2) := by decide +kernel
theorem zd_L_law_476 : decode zc_L_law 476 = .ok (.lcmp, 1) := by decide +kernel
theorem zd_L_law_477 : decode zc_L_law 477 = .ok (.ifCond .eq 5, 3) := by decide +kernel
theorem zd_L_law_480 : decode zc_L_law 480 = .ok (.iconst 0, 1) := by decide +kernel
theorem zd_L_law_481 : decode zc_L_law 481 = .ok (.ireturn, 1) := by decide +kernel
theorem zd_L_law_482 : decode zc_L_law 482 = .ok (.goto 352, 3) := by decide +kernel
theorem zd_L_law_485 : decode zc_L_law 485 = .ok (.aload_n 1, 1) := by decide +kernel
theorem zd_L_law_486 : decode zc_L_law 486 = .ok (.aload_n 0, 1) := by decide +kernel
theorem zd_L_law_487 : decode zc_L_law 487 = .ok (.iload 4, 2) := by decide +kernel
theorem zd_L_law_489 : decode zc_L_law 489 = .ok (.iconst 1, 1) := by decide +kernel
theorem zd_L_law_490 : decode zc_L_law 490 = .ok (.iadd, 1) := by decide +kernel
theorem zd_L_law_491 : decode zc_L_law 491 = .ok (.iaload, 1) := by decide +kernel
theorem zd_L_law_492 : decode zc_L_law 492 = .ok (.aload_n 3, 1) := by decide +kernel
theorem zd_L_law_493 : decode zc_L_law 493 = .ok (.invokestatic 84, 3) := by decide +kernel
theorem zd_L_law_496 : decode zc_L_law 496 = .ok (.istore 5, 2) := by decide +kernel
theorem zd_L_law_498 : decode zc_L_law 498 = .ok (.aload_n 2, 1) := by decide +kernel
theorem zd_L_law_499 : decode zc_L_law 499 = .ok (.aload_n 0, 1) := by decide +kernel
theorem zd_L_law_500 : decode zc_L_law 500 = .ok (.iload 4, 2) := by decide +kernel
theorem zd_L_law_502 : decode zc_L_law 502 = .ok (.iconst 1, 1) := by decide +kernel
theorem zd_L_law_503 : decode zc_L_law 503 = .ok (.iadd, 1) := by decide +kernel
theorem zd_L_law_504 : decode zc_L_law 504 = .ok (.iaload, 1) := by decide +kernel
theorem zd_L_law_505 : decode zc_L_law 505 = .ok (.invokevirtual 87, 3) := by decide +kernel
theorem zd_L_law_508 : decode zc_L_law 508 = .ok (.istore 6, 2) := by decide +kernel
theorem zd_L_law_510 : decode zc_L_law 510 = .ok (.aload_n 2, 1) := by decide +kernel
theorem zd_L_law_511 : decode zc_L_law 511 = .ok (.invokevirtual 68, 3) := by decide +kernel
theorem zd_L_law_514 : decode zc_L_law 514 = .ok (.iload 5, 2) := by decide +kernel
theorem zd_L_law_516 : decode zc_L_law 516 = .ok (.if_icmp .eq 5, 3) := by decide +kernel
theorem zd_L_law_519 : decode zc_L_law 519 = .ok (.iconst 0, 1) := by decide +kernel
theorem zd_L_law_520 : decode zc_L_law 520 = .ok (.ireturn, 1) := by decide +kernel
theorem zd_L_law_521 : decode zc_L_law 521 = .ok (.iload 5, 2) := by decide +kernel
theorem zd_L_law_523 : decode zc_L_law 523 = .ok (.ifCond .ne 15, 3) := by decide +kernel
theorem zd_L_law_526 : decode zc_L_law 526 = .ok (.aload_n 3, 1) := by decide +kernel
theorem zd_L_law_527 : decode zc_L_law 527 = .ok (.iconst 0, 1) := by decide +kernel
theorem zd_L_law_528 : decode zc_L_law 528 = .ok (.laload, 1) := by decide +kernel
theorem zd_L_law_529 : decode zc_L_law 529 = .ok (.iload 6, 2) := by decide +kernel
theorem zd_L_law_531 : decode zc_L_law 531 = .ok (.i2l, 1) := by decide +kernel
theorem zd_L_law_532 : decode zc_L_law 532 = .ok (.lcmp, 1) := by decide +kernel
theorem zd_L_law_533 : decode zc_L_law 533 = .ok (.ifCond .eq 5, 3) := by decide +kernel
theorem zd_L_law_536 : decode zc_L_law 536 = .ok (.iconst 0, 1) := by decide +kernel
theorem zd_L_law_537 : decode zc_L_law 537 = .ok (.ireturn, 1) := by decide +kernel
theorem zd_L_law_538 : decode zc_L_law 538 = .ok (.goto 296, 3) := by decide +kernel
theorem zd_L_law_541 : decode zc_L_law 541 = .ok (.aload_n 1, 1) := by decide +kernel
theorem zd_L_law_542 : decode zc_L_law 542 = .ok (.aload_n 0, 1) := by decide +kernel
theorem zd_L_law_543 : decode zc_L_law 543 = .ok (.iload 4, 2) := by decide +kernel
theorem zd_L_law_545 : decode zc_L_law 545 = .ok (.iconst 1, 1) := by decide +kernel
theorem zd_L_law_546 : decode zc_L_law 546 = .ok (.iadd, 1) := by decide +kernel
theorem zd_L_law_547 : decode zc_L_law 547 = .ok (.iaload, 1) := by decide +kernel
theorem zd_L_law_548 : decode zc_L_law 548 = .ok (.aload_n 3, 1) := by decide +kernel
theorem zd_L_law_549 : decode zc_L_law 549 = .ok (.invokestatic 88, 3) := by decide +kernel
theorem zd_L_law_552 : decode zc_L_law 552 = .ok (.istore 5, 2) := by decide +kernel
theorem zd_L_law_554 : decode zc_L_law 554 = .ok (.aload_n 2, 1) := by decide +kernel
theorem zd_L_law_555 : decode zc_L_law 555 = .ok (.aload_n 0, 1) := by decide +kernel
theorem zd_L_law_556 : decode zc_L_law 556 = .ok (.iload 4, 2) := by decide +kernel
theorem zd_L_law_558 : decode zc_L_law 558 = .ok (.iconst 1, 1) := by decide +kernel
theorem zd_L_law_559 : decode zc_L_law 559 = .ok (.iadd, 1) := by decide +kernel
theorem zd_L_law_560 : decode zc_L_law 560 = .ok (.iaload, 1) := by decide +kernel
theorem zd_L_law_561 : decode zc_L_law 561 = .ok (.invokevirtual 90, 3) := by decide +kernel
theorem zd_L_law_564 : decode zc_L_law 564 = .ok (.istore 6, 2) := by decide +kernel
theorem zd_L_law_566 : decode zc_L_law 566 = .ok (.aload_n 2, 1) := by decide +kernel
theorem zd_L_law_567 : decode zc_L_law 567 = .ok (.invokevirtual 68, 3) := by decide +kernel
theorem zd_L_law_570 : decode zc_L_law 570 = .ok (.iload 5, 2) := by decide +kernel
theorem zd_L_law_572 : decode zc_L_law 572 = .ok (.if_icmp .eq 5, 3) := by decide +kernel
theorem zd_L_law_575 : decode zc_L_law 575 = .ok (.iconst 0, 1) := by decide +kernel
theorem zd_L_law_576 : decode zc_L_law 576 = .ok (.ireturn, 1) := by decide +kernel
theorem zd_L_law_577 : decode zc_L_law 577 = .ok (.iload 5, 2) := by decide +kernel
theorem zd_L_law_579 : decode zc_L_law 579 = .ok (.ifCond .ne 15, 3) := by decide +kernel
theorem zd_L_law_582 : decode zc_L_law 582 = .ok (.aload_n 3, 1) := by decide +kernel
theorem zd_L_law_583 : decode zc_L_law 583 = .ok (.iconst 0, 1) := by decide +kernel
theorem zd_L_law_584 : decode zc_L_law 584 = .ok (.laload, 1) := by decide +kernel
theorem zd_L_law_585 : decode zc_L_law 585 = .ok (.iload 6, 2) := by decide +kernel
theorem zd_L_law_587 : decode zc_L_law 587 = .ok (.i2l, 1) := by decide +kernel
theorem zd_L_law_588 : decode zc_L_law 588 = .ok (.lcmp, 1) := by decide +kernel
theorem zd_L_law_589 : decode zc_L_law 589 = .ok (.ifCond .eq 5, 3) := by decide +kernel
theorem zd_L_law_592 : decode zc_L_law 592 = .ok (.iconst 0, 1) := by decide +kernel
theorem zd_L_law_593 : decode zc_L_law 593 = .ok (.ireturn, 1) := by decide +kernel
theorem zd_L_law_594 : decode zc_L_law 594 = .ok (.goto 240, 3) := by decide +kernel
theorem zd_L_law_597 : decode zc_L_law 597 = .ok (.aload_n 1, 1) := by decide +kernel
theorem zd_L_law_598 : decode zc_L_law 598 = .ok (.aload_n 0, 1) := by decide +kernel
theorem zd_L_law_599 : decode zc_L_law 599 = .ok (.iload 4, 2) := by decide +kernel
theorem zd_L_law_601 : decode zc_L_law 601 = .ok (.iconst 1, 1) := by decide +kernel
theorem zd_L_law_602 : decode zc_L_law 602 = .ok (.iadd, 1) := by decide +kernel
theorem zd_L_law_603 : decode zc_L_law 603 = .ok (.iaload, 1) := by decide +kernel
theorem zd_L_law_604 : decode zc_L_law 604 = .ok (.aload_n 3, 1) := by decide +kernel
theorem zd_L_law_605 : decode zc_L_law 605 = .ok (.invokestatic 91, 3) := by decide +kernel
theorem zd_L_law_608 : decode zc_L_law 608 = .ok (.istore 5, 2) := by decide +kernel
theorem zd_L_law_610 : decode zc_L_law 610 = .ok (.aload_n 2, 1) := by decide +kernel
theorem zd_L_law_611 : decode zc_L_law 611 = .ok (.aload_n 0, 1) := by decide +kernel
theorem zd_L_law_612 : decode zc_L_law 612 = .ok (.iload 4, 2) := by decide +kernel
theorem zd_L_law_614 : decode zc_L_law 614 = .ok (.iconst 1, 1) := by decide +kernel
theorem zd_L_law_615 : decode zc_L_law 615 = .ok (.iadd, 1) := by decide +kernel
theorem zd_L_law_616 : decode zc_L_law 616 = .ok (.iaload, 1) := by decide +kernel
theorem zd_L_law_617 : decode zc_L_law 617 = .ok (.invokevirtual 93, 3) := by decide +kernel
theorem zd_L_law_620 : decode zc_L_law 620 = .ok (.istore 6, 2) := by decide +kernel
theorem zd_L_law_622 : decode zc_L_law 622 = .ok (.aload_n 2, 1) := by decide +kernel
theorem zd_L_law_623 : decode zc_L_law 623 = .ok (.invokevirtual 68, 3) := by decide +kernel
theorem zd_L_law_626 : decode zc_L_law 626 = .ok (.iload 5, 2) := by decide +kernel
theorem zd_L_law_628 : decode zc_L_law 628 = .ok (.if_icmp .eq 5, 3) := by decide +kernel
theorem zd_L_law_631 : decode zc_L_law 631 = .ok (.iconst 0, 1) := by decide +kernel
theorem zd_L_law_632 : decode zc_L_law 632 = .ok (.ireturn, 1) := by decide +kernel
theorem zd_L_law_633 : decode zc_L_law 633 = .ok (.iload 5, 2) := by decide +kernel
theorem zd_L_law_635 : decode zc_L_law 635 = .ok (.ifCond .ne 15, 3) := by decide +kernel
theorem zd_L_law_638 : decode zc_L_law 638 = .ok (.aload_n 3, 1) := by decide +kernel
theorem zd_L_law_639 : decode zc_L_law 639 = .ok (.iconst 0, 1) := by decide +kernel
theorem zd_L_law_640 : decode zc_L_law 640 = .ok (.laload, 1) := by decide +kernel
theorem zd_L_law_641 : decode zc_L_law 641 = .ok (.iload 6, 2) := by decide +kernel
theorem zd_L_law_643 : decode zc_L_law 643 = .ok (.i2l, 1) := by decide +kernel
theorem zd_L_law_644 : decode zc_L_law 644 = .ok (.lcmp, 1) := by decide +kernel
theorem zd_L_law_645 : decode zc_L_law 645 = .ok (.ifCond .eq 5, 3) := by decide +kernel
theorem zd_L_law_648 : decode zc_L_law 648 = .ok (.iconst 0, 1) := by decide +kernel
theorem zd_L_law_649 : decode zc_L_law 649 = .ok (.ireturn, 1) := by decide +kernel
theorem zd_L_law_650 : decode zc_L_law 650 = .ok (.goto 184, 3) := by decide +kernel
theorem zd_L_law_653 : decode zc_L_law 653 = .ok (.aload_n 1, 1) := by decide +kernel
theorem zd_L_law_654 : decode zc_L_law 654 = .ok (.aload_n 0, 1) := by decide +kernel
theorem zd_L_law_655 : decode zc_L_law 655 = .ok (.iload 4, 2) := by decide +kernel
theorem zd_L_law_657 : decode zc_L_law 657 = .ok (.iconst 1, 1) := by decide +kernel
theorem zd_L_law_658 : decode zc_L_law 658 = .ok (.iadd, 1) := by decide +kernel
theorem zd_L_law_659 : decode zc_L_law 659 = .ok (.iaload, 1) := by decide +kernel
theorem zd_L_law_660 : decode zc_L_law 660 = .ok (.aload_n 3, 1) := by decide +kernel
theorem zd_L_law_661 : decode zc_L_law 661 = .ok (.invokestatic 94, 3) := by decide +kernel
theorem zd_L_law_664 : decode zc_L_law 664 = .ok (.istore 5, 2) := by decide +kernel
theorem zd_L_law_666 : decode zc_L_law 666 = .ok (.aload_n 2, 1) := by decide +kernel
theorem zd_L_law_667 : decode zc_L_law 667 = .ok (.aload_n 0, 1) := by decide +kernel
theorem zd_L_law_668 : decode zc_L_law 668 = .ok (.iload 4, 2) := by decide +kernel
theorem zd_L_law_670 : decode zc_L_law 670 = .ok (.iconst 1, 1) := by decide +kernel
theorem zd_L_law_671 : decode zc_L_law 671 = .ok (.iadd, 1) := by decide +kernel
theorem zd_L_law_672 : decode zc_L_law 672 = .ok (.iaload, 1) := by decide +kernel
theorem zd_L_law_673 : decode zc_L_law 673 = .ok (.invokevirtual 96, 3) := by decide +kernel
theorem zd_L_law_676 : decode zc_L_law 676 = .ok (.istore 6, 2) := by decide +kernel
theorem zd_L_law_678 : decode zc_L_law 678 = .ok (.aload_n 2, 1) := by decide +kernel
theorem zd_L_law_679 : decode zc_L_law 679 = .ok (.invokevirtual 68, 3) := by decide +kernel
theorem zd_L_law_682 : decode zc_L_law 682 = .ok (.iload 5, 2) := by decide +kernel
theorem zd_L_law_684 : decode zc_L_law 684 = .ok (.if_icmp .eq 5, 3) := by decide +kernel
theorem zd_L_law_687 : decode zc_L_law 687 = .ok (.iconst 0, 1) := by decide +kernel
theorem zd_L_law_688 : decode zc_L_law 688 = .ok (.ireturn, 1) := by decide +kernel
theorem zd_L_law_689 : decode zc_L_law 689 = .ok (.iload 5, 2) := by decide +kernel
theorem zd_L_law_691 : decode zc_L_law 691 = .ok (.ifCond .ne 15, 3) := by decide +kernel
theorem zd_L_law_694 : decode zc_L_law 694 = .ok (.aload_n 3, 1) := by decide +kernel
theorem zd_L_law_695 : decode zc_L_law 695 = .ok (.iconst 0, 1) := by decide +kernel
theorem zd_L_law_696 : decode zc_L_law 696 = .ok (.laload, 1) := by decide +kernel
theorem zd_L_law_697 : decode zc_L_law 697 = .ok (.iload 6, 2) := by decide +kernel
theorem zd_L_law_699 : decode zc_L_law 699 = .ok (.i2l, 1) := by decide +kernel
theorem zd_L_law_700 : decode zc_L_law 700 = .ok (.lcmp, 1) := by decide +kernel
theorem zd_L_law_701 : decode zc_L_law 701 = .ok (.ifCond .eq 5, 3) := by decide +kernel
theorem zd_L_law_704 : decode zc_L_law 704 = .ok (.iconst 0, 1) := by decide +kernel
theorem zd_L_law_705 : decode zc_L_law 705 = .ok (.ireturn, 1) := by decide +kernel
theorem zd_L_law_706 : decode zc_L_law 706 = .ok (.goto 128, 3) := by decide +kernel
theorem zd_L_law_709 : decode zc_L_law 709 = .ok (.aload_n 1, 1) := by decide +kernel
theorem zd_L_law_710 : decode zc_L_law 710 = .ok (.aload_n 0, 1) := by decide +kernel
theorem zd_L_law_711 : decode zc_L_law 711 = .ok (.iload 4, 2) := by decide +kernel
theorem zd_L_law_713 : decode zc_L_law 713 = .ok (.iconst 1, 1) := by decide +kernel
theorem zd_L_law_714 : decode zc_L_law 714 = .ok (.iadd, 1) := by decide +kernel
theorem zd_L_law_715 : decode zc_L_law 715 = .ok (.iaload, 1) := by decide +kernel
theorem zd_L_law_716 : decode zc_L_law 716 = .ok (.aload_n 3, 1) := by decide +kernel
theorem zd_L_law_717 : decode zc_L_law 717 = .ok (.invokestatic 97, 3) := by decide +kernel
theorem zd_L_law_720 : decode zc_L_law 720 = .ok (.istore 5, 2) := by decide +kernel
theorem zd_L_law_722 : decode zc_L_law 722 = .ok (.aload_n 2, 1) := by decide +kernel
theorem zd_L_law_723 : decode zc_L_law 723 = .ok (.aload_n 0, 1) := by decide +kernel
theorem zd_L_law_724 : decode zc_L_law 724 = .ok (.iload 4, 2) := by decide +kernel
theorem zd_L_law_726 : decode zc_L_law 726 = .ok (.iconst 1, 1) := by decide +kernel
theorem zd_L_law_727 : decode zc_L_law 727 = .ok (.iadd, 1) := by decide +kernel
theorem zd_L_law_728 : decode zc_L_law 728 = .ok (.iaload, 1) := by decide +kernel
theorem zd_L_law_729 : decode zc_L_law 729 = .ok (.invokevirtual 99, 3) := by decide +kernel
theorem zd_L_law_732 : decode zc_L_law 732 = .ok (.istore 6, 2) := by decide +kernel
theorem zd_L_law_734 : decode zc_L_law 734 = .ok (.aload_n 2, 1) := by decide +kernel
theorem zd_L_law_735 : decode zc_L_law 735 = .ok (.invokevirtual 68, 3) := by decide +kernel
theorem zd_L_law_738 : decode zc_L_law 738 = .ok (.iload 5, 2) := by decide +kernel
theorem zd_L_law_740 : decode zc_L_law 740 = .ok (.if_icmp .eq 5, 3) := by decide +kernel
theorem zd_L_law_743 : decode zc_L_law 743 = .ok (.iconst 0, 1) := by decide +kernel
theorem zd_L_law_744 : decode zc_L_law 744 = .ok (.ireturn, 1) := by decide +kernel
theorem zd_L_law_745 : decode zc_L_law 745 = .ok (.iload 5, 2) := by decide +kernel
theorem zd_L_law_747 : decode zc_L_law 747 = .ok (.ifCond .ne 15, 3) := by decide +kernel
theorem zd_L_law_750 : decode zc_L_law 750 = .ok (.aload_n 3, 1) := by decide +kernel
theorem zd_L_law_751 : decode zc_L_law 751 = .ok (.iconst 0, 1) := by decide +kernel
theorem zd_L_law_752 : decode zc_L_law 752 = .ok (.laload, 1) := by decide +kernel
theorem zd_L_law_753 : decode zc_L_law 753 = .ok (.iload 6, 2) := by decide +kernel
theorem zd_L_law_755 : decode zc_L_law 755 = .ok (.i2l, 1) := by decide +kernel
theorem zd_L_law_756 : decode zc_L_law 756 = .ok (.lcmp, 1) := by decide +kernel
theorem zd_L_law_757 : decode zc_L_law 757 = .ok (.ifCond .eq 5, 3) := by decide +kernel
theorem zd_L_law_760 : decode zc_L_law 760 = .ok (.iconst 0, 1) := by decide +kernel
theorem zd_L_law_761 : decode zc_L_law 761 = .ok (.ireturn, 1) := by decide +kernel
theorem zd_L_law_762 : decode zc_L_law 762 = .ok (.goto 72, 3) := by decide +kernel
theorem zd_L_law_765 : decode zc_L_law 765 = .ok (.aload_n 1, 1) := by decide +kernel
theorem zd_L_law_766 : decode zc_L_law 766 = .ok (.aload_n 0, 1) := by decide +kernel
theorem zd_L_law_767 : decode zc_L_law 767 = .ok (.iload 4, 2) := by decide +kernel
theorem zd_L_law_769 : decode zc_L_law 769 = .ok (.iconst 1, 1) := by decide +kernel
theorem zd_L_law_770 : decode zc_L_law 770 = .ok (.iadd, 1) := by decide +kernel
theorem zd_L_law_771 : decode zc_L_law 771 = .ok (.iaload, 1) := by decide +kernel
theorem zd_L_law_772 : decode zc_L_law 772 = .ok (.aload_n 3, 1) := by decide +kernel
theorem zd_L_law_773 : decode zc_L_law 773 = .ok (.invokestatic 100, 3) := by decide +kernel
theorem zd_L_law_776 : decode zc_L_law 776 = .ok (.istore 5, 2) := by decide +kernel
theorem zd_L_law_778 : decode zc_L_law 778 = .ok (.aload_n 2, 1) := by decide +kernel
theorem zd_L_law_779 : decode zc_L_law 779 = .ok (.aload_n 0, 1) := by decide +kernel
theorem zd_L_law_780 : decode zc_L_law 780 = .ok (.iload 4, 2) := by decide +kernel
theorem zd_L_law_782 : decode zc_L_law 782 = .ok (.iconst 1, 1) := by decide +kernel
theorem zd_L_law_783 : decode zc_L_law 783 = .ok (.iadd, 1) := by decide +kernel
theorem zd_L_law_784 : decode zc_L_law 784 = .ok (.iaload, 1) := by decide +kernel
theorem zd_L_law_785 : decode zc_L_law 785 = .ok (.invokevirtual 102, 3) := by decide +kernel
theorem zd_L_law_788 : decode zc_L_law 788 = .ok (.istore 6, 2) := by decide +kernel
theorem zd_L_law_790 : decode zc_L_law 790 = .ok (.aload_n 2, 1) := by decide +kernel
theorem zd_L_law_791 : decode zc_L_law 791 = .ok (.invokevirtual 68, 3) := by decide +kernel
theorem zd_L_law_794 : decode zc_L_law 794 = .ok (.iload 5, 2) := by decide +kernel
theorem zd_L_law_796 : decode zc_L_law 796 = .ok (.if_icmp .eq 5, 3) := by decide +kernel
theorem zd_L_law_799 : decode zc_L_law 799 = .ok (.iconst 0, 1) := by decide +kernel
theorem zd_L_law_800 : decode zc_L_law 800 = .ok (.ireturn, 1) := by decide +kernel
theorem zd_L_law_801 : decode zc_L_law 801 = .ok (.iload 5, 2) := by decide +kernel
theorem zd_L_law_803 : decode zc_L_law 803 = .ok (.ifCond .ne 15, 3) := by decide +kernel
theorem zd_L_law_806 : decode zc_L_law 806 = .ok (.aload_n 3, 1) := by decide +kernel
theorem zd_L_law_807 : decode zc_L_law 807 = .ok (.iconst 0, 1) := by decide +kernel
theorem zd_L_law_808 : decode zc_L_law 808 = .ok (.laload, 1) := by decide +kernel
theorem zd_L_law_809 : decode zc_L_law 809 = .ok (.iload 6, 2) := by decide +kernel
theorem zd_L_law_811 : decode zc_L_law 811 = .ok (.i2l, 1) := by decide +kernel
theorem zd_L_law_812 : decode zc_L_law 812 = .ok (.lcmp, 1) := by decide +kernel
theorem zd_L_law_813 : decode zc_L_law 813 = .ok (.ifCond .eq 5, 3) := by decide +kernel
theorem zd_L_law_816 : decode zc_L_law 816 = .ok (.iconst 0, 1) := by decide +kernel
theorem zd_L_law_817 : decode zc_L_law 817 = .ok (.ireturn, 1) := by decide +kernel
theorem zd_L_law_818 : decode zc_L_law 818 = .ok (.goto 16, 3) := by decide +kernel
theorem zd_L_law_821 : decode zc_L_law 821 = .ok (.aload_n 1, 1) := by decide +kernel
theorem zd_L_law_822 : decode zc_L_law 822 = .ok (.invokevirtual 103, 3) := by decide +kernel
theorem zd_L_law_825 : decode zc_L_law 825 = .ok (.aload_n 2, 1) := by decide +kernel
theorem zd_L_law_826 : decode zc_L_law 826 = .ok (.invokevirtual 106, 3) := by decide +kernel
theorem zd_L_law_829 : decode zc_L_law 829 = .ok (.if_icmp .eq 5, 3) := by decide +kernel
theorem zd_L_law_832 : decode zc_L_law 832 = .ok (.iconst 0, 1) := by decide +kernel
theorem zd_L_law_833 : decode zc_L_law 833 = .ok (.ireturn, 1) := by decide +kernel
theorem zd_L_law_834 : decode zc_L_law 834 = .ok (.iinc 4 6, 3) := by decide +kernel
theorem zd_L_law_837 : decode zc_L_law 837 = .ok (.goto (-804), 3) := by decide +kernel
theorem zd_L_law_840 : decode zc_L_law 840 = .ok (.iconst 1, 1) := by decide +kernel
theorem zd_L_law_841 : decode zc_L_law 841 = .ok (.ireturn, 1) := by decide +kernel
end
section
section ZK
variable {p : Program} {l : Launch} {e : Env} {R : Room} {s : State} {m : MethodId} {args : Array Value} {below : List Frame} {meth : Method} {c : Code} {H : Heap} {locs : List Loc} {cells slots : Nat} {Q : State → Prop}
variable {cc : ByteArray} {pc : Nat} {ls : Array Slot} {rest st0 : List Value} {D : va_G} {cl : List vw_C} {A : Nat → Prop} {a : Nat} {tys : List (ClassId × FieldType)} {ws wc wr : va_W} {H0 : Heap}
/-- the world behind a method -/
abbrev zAt (D : va_G) (cl : List vw_C) (tys : List (ClassId × FieldType)) (A : Nat → Prop) (ws : va_W) (t : State) : Prop := va_P D cl ws t.heap ∧ va_K D cl tys t ∧ va_D A ws
/-- the world ahead of it -/
abbrev zPre (D : va_G) (cl : List vw_C) (tys : List (ClassId × FieldType)) (ws : va_W) (sz : Nat) (U : State) : Prop := U.heap.size = sz ∧ va_P D cl ws U.heap ∧ va_K D cl tys U ∧ va_D (fun _ => True) ws
theorem z_blind {av : List Value} {sz : Nat} : FrameBlind (va_Pc av (zPre D cl tys ws sz)) := fun a U g mk q => ⟨q.1, q.2.1, q.2.2.1, va_K.moved (u := U) (U := U.calling g mk a) (Vm.Alike.refl U.vm) q.2.2.2.1, q.2.2.2.2⟩
theorem zcwV {own C : String} {index : Nat} {y : MethodName} {bytes : ByteArray} {maxL : Nat} {ret : Option FieldType} {rm : Room} (n : Nat) (htz : ∀ w ∈ zG, w.before args s = true) (hc : Cond.code y bytes maxL ret ∈ zG) (hl : Cond.methodLink own index y ∈ zG) (hi : Cond.instanceMethod y ∈ zG) (hs : Cond.selects C y y ∈ zG) (hini : Cond.initialized y.cls ∈ zG)
    (hd : y.cls ≠ "java/lang/invoke/MethodHandle" ∧ y.cls ≠ "java/lang/invoke/VarHandle" ∧ (parseMethodDescriptor y.desc).map (fun d => d.parameters.length) = some n) (hR : rm.frames + 1 ≤ R.frames ∧ 8 + (maxL + 11) + rm.locals ≤ R.locals) : CallW R s args own C index y bytes maxL ret (Cond.code y bytes maxL ret :: zG) rm rm.cells rm.slots n :=
  ⟨callB_of n htz (zG_good hc) rfl rfl rfl (htz _ hini) (htz _ hl) hd hR, htz _ hi, htz _ hs⟩
theorem zcwS {own : String} {index : Nat} {y : MethodName} {bytes : ByteArray} {maxL : Nat} {ret : Option FieldType} {rm : Room} (n : Nat) (htz : ∀ w ∈ zG, w.before args s = true) (hc : Cond.code y bytes maxL ret ∈ zG) (hl : Cond.methodLink own index y ∈ zG) (hs : Cond.static y ∈ zG) (hini : Cond.initialized y.cls ∈ zG)
    (hd : y.cls ≠ "java/lang/invoke/MethodHandle" ∧ y.cls ≠ "java/lang/invoke/VarHandle" ∧ (parseMethodDescriptor y.desc).map (fun d => d.parameters.length) = some n) (hR : rm.frames + 1 ≤ R.frames ∧ 8 + (maxL + 11) + rm.locals ≤ R.locals) : CallB R s args own index y bytes maxL ret (Cond.code y bytes maxL ret :: zG) rm rm.cells rm.slots n ∧ (Cond.static y).before args s = true :=
  ⟨callB_of n htz (zG_good hc) rfl rfl rfl (htz _ hini) (htz _ hl) hd hR, htz _ hs⟩
theorem zcwI {own : String} {index : Nat} {y : MethodName} {bytes : ByteArray} {maxL : Nat} {rm : Room} (n : Nat) (htz : ∀ w ∈ zG, w.before args s = true) (hc : Cond.code y bytes maxL none ∈ zG) (hl : Cond.methodLink own index y ∈ zG) (hi : Cond.instanceMethod y ∈ zG) (hini : Cond.initialized y.cls ∈ zG) (hn : y.name = "<init>")
    (hd : y.cls ≠ "java/lang/invoke/MethodHandle" ∧ y.cls ≠ "java/lang/invoke/VarHandle" ∧ (parseMethodDescriptor y.desc).map (fun d => d.parameters.length) = some n) (hR : rm.frames + 1 ≤ R.frames ∧ 8 + (maxL + 11) + rm.locals ≤ R.locals) : CallB R s args own index y bytes maxL none (Cond.code y bytes maxL none :: zG) rm rm.cells rm.slots n ∧ y.name = "<init>" ∧ (Cond.instanceMethod y).before args s = true :=
  ⟨callB_of n htz (zG_good hc) rfl rfl rfl (htz _ hini) (htz _ hl) hd hR, hn, htz _ hi⟩
theorem z_topi {x y : Int32} (h : x = y) (k : W p l e R s m args below meth c H locs cells slots Q (F0 m pc ls (.int y :: rest))) : W p l e R s m args below meth c H locs cells slots Q (F0 m pc ls (.int x :: rest)) := by rw [h]; exact k
theorem z_topl {x y : Int64} (h : x = y) (k : W p l e R s m args below meth c H locs cells slots Q (F0 m pc ls (.long y :: rest))) : W p l e R s m args below meth c H locs cells slots Q (F0 m pc ls (.long x :: rest)) := by rw [h]; exact k
theorem z_iald (hexec : p.tables.exec = Jvm.exec) (hb : c.code = cc) (hK : va_K D cl tys s) (hP : va_P D cl ws H) (q0 t0 : Nat) {cA : ClassId} {n : Nat} {f : Nat → Int32} (ha : ws[q0]? = some (a, .inl (cA, n, .inl f))) (ht : tys[t0]? = some (cA, .int)) {j : Nat} (hj : j < n) (hn : n < 2 ^ 31) (hdg : decode cc pc = .ok (.iaload, 1)) (kk : W p l e R s m args below meth c H locs cells slots Q (F0 m (pc + 1) ls (.int (f j) :: rest))) : W p l e R s m args below meth c H locs cells slots Q (F0 m pc ls (.int (nI j) :: .ref a :: rest)) :=
  va_iald hexec hb hK hP q0 t0 ha ht (vp_in_nI hj hn) hdg (by rw [nI_clamp (Nat.lt_trans hj hn)]; exact kk)
theorem z_zald (hexec : p.tables.exec = Jvm.exec) (hb : c.code = cc) (hK : va_K D cl tys s) (hP : va_P D cl ws H) (q0 t0 : Nat) {cA : ClassId} {n : Nat} {f : Nat → Int32} (ha : ws[q0]? = some (a, .inl (cA, n, .inl f))) (ht : tys[t0]? = some (cA, .boolean)) {j : Nat} (hj : j < n) (hn : n < 2 ^ 31) (hdg : decode cc pc = .ok (.baload, 1)) (kk : W p l e R s m args below meth c H locs cells slots Q (F0 m (pc + 1) ls (.int (f j) :: rest))) : W p l e R s m args below meth c H locs cells slots Q (F0 m pc ls (.int (nI j) :: .ref a :: rest)) :=
  va_zald hexec hb hK hP q0 t0 ha ht (vp_in_nI hj hn) hdg (by rw [nI_clamp (Nat.lt_trans hj hn)]; exact kk)
theorem z_lald (hexec : p.tables.exec = Jvm.exec) (hb : c.code = cc) (hK : va_K D cl tys s) (hP : va_P D cl ws H) (q0 t0 : Nat) {cA : ClassId} {n : Nat} {f : Nat → Int64} (ha : ws[q0]? = some (a, .inl (cA, n, .inr (.inl f)))) (ht : tys[t0]? = some (cA, .long)) {j : Nat} (hj : j < n) (hn : n < 2 ^ 31) (hdg : decode cc pc = .ok (.laload, 1)) (kk : W p l e R s m args below meth c H locs cells slots Q (F0 m (pc + 1) ls (.long (f j) :: rest))) : W p l e R s m args below meth c H locs cells slots Q (F0 m pc ls (.int (nI j) :: .ref a :: rest)) :=
  va_lald hexec hb hK hP q0 t0 ha ht (vp_in_nI hj hn) hdg (by rw [nI_clamp (Nat.lt_trans hj hn)]; exact kk)
theorem z_iast (hexec : p.tables.exec = Jvm.exec) (hb : c.code = cc) (hK : va_K D cl tys s) (hP : va_P D cl ws H) (hD : va_D A ws) (hS : va_S A H0 H locs) (q0 t0 : Nat) {cA : ClassId} {n : Nat} {f : Nat → Int32} (ha : ws[q0]? = some (a, .inl (cA, n, .inl f))) (ht : tys[t0]? = some (cA, .int)) {j : Nat} {x : Int32} (hj : j < n) (hn : n < 2 ^ 31) (hdg : decode cc pc = .ok (.iastore, 1)) (kk : ∀ (H1 : Heap) (locs1 : List Loc), va_P D cl (ws.set q0 (a, .inl (cA, n, .inl (upd f j x)))) H1 → va_D A (ws.set q0 (a, .inl (cA, n, .inl (upd f j x)))) → va_S A H0 H1 locs1 → W p l e R s m args below meth c H1 locs1 cells slots Q (F0 m (pc + 1) ls rest)) : W p l e R s m args below meth c H locs cells slots Q (F0 m pc ls (.int x :: .int (nI j) :: .ref a :: rest)) :=
  va_iast hexec hb hK hP hD hS q0 t0 ha ht (vp_in_nI hj hn) hdg (by rw [nI_clamp (Nat.lt_trans hj hn)]; exact kk)
theorem z_zast (hexec : p.tables.exec = Jvm.exec) (hb : c.code = cc) (hK : va_K D cl tys s) (hP : va_P D cl ws H) (hD : va_D A ws) (hS : va_S A H0 H locs) (q0 t0 : Nat) {cA : ClassId} {n : Nat} {f : Nat → Int32} (ha : ws[q0]? = some (a, .inl (cA, n, .inl f))) (ht : tys[t0]? = some (cA, .boolean)) {j : Nat} {x : Int32} (hj : j < n) (hn : n < 2 ^ 31) (hnx : vp_nar .boolean x = x) (hdg : decode cc pc = .ok (.bastore, 1)) (kk : ∀ (H1 : Heap) (locs1 : List Loc), va_P D cl (ws.set q0 (a, .inl (cA, n, .inl (upd f j x)))) H1 → va_D A (ws.set q0 (a, .inl (cA, n, .inl (upd f j x)))) → va_S A H0 H1 locs1 → W p l e R s m args below meth c H1 locs1 cells slots Q (F0 m (pc + 1) ls rest)) : W p l e R s m args below meth c H locs cells slots Q (F0 m pc ls (.int x :: .int (nI j) :: .ref a :: rest)) :=
  va_zast hexec hb hK hP hD hS q0 t0 ha ht (vp_in_nI hj hn) hdg (by rw [nI_clamp (Nat.lt_trans hj hn), hnx]; exact kk)
theorem z_last (hexec : p.tables.exec = Jvm.exec) (hb : c.code = cc) (hK : va_K D cl tys s) (hP : va_P D cl ws H) (hD : va_D A ws) (hS : va_S A H0 H locs) (q0 t0 : Nat) {cA : ClassId} {n : Nat} {f : Nat → Int64} (ha : ws[q0]? = some (a, .inl (cA, n, .inr (.inl f)))) (ht : tys[t0]? = some (cA, .long)) {j : Nat} {x : Int64} (hj : j < n) (hn : n < 2 ^ 31) (hdg : decode cc pc = .ok (.lastore, 1)) (kk : ∀ (H1 : Heap) (locs1 : List Loc), va_P D cl (ws.set q0 (a, .inl (cA, n, .inr (.inl (vp_updL f j x))))) H1 → va_D A (ws.set q0 (a, .inl (cA, n, .inr (.inl (vp_updL f j x))))) → va_S A H0 H1 locs1 → W p l e R s m args below meth c H1 locs1 cells slots Q (F0 m (pc + 1) ls rest)) : W p l e R s m args below meth c H locs cells slots Q (F0 m pc ls (.long x :: .int (nI j) :: .ref a :: rest)) :=
  va_last hexec hb hK hP hD hS q0 t0 ha ht (vp_in_nI hj hn) hdg (by rw [nI_clamp (Nat.lt_trans hj hn)]; exact kk)
abbrev zMi (l : Launch) (y : MethodName) (w : List Cond) (rm : Room) (av : List Value) (D : va_G) (cl : List vw_C) (tys : List (ClassId × FieldType)) (ws : va_W) (sz : Nat) (post : Int32 → va_W → Prop) : Prop := Met l y w rm (va_Pc av (zPre D cl tys ws sz)) (va_Qi post (zAt D cl tys (va_A ws sz)) (va_A ws sz)) rm.cells rm.slots (va_A ws sz)
theorem z_ofi {y : MethodName} {w : List Cond} {rm : Room} {av : List Value} {sz maxL : Nat} {post : Int32 → va_W → Prop} {ret : Option FieldType} (hy : plainName y.cls = true) (hw : w = Cond.code y cc maxL ret :: zG) (hn : (lg_sl av).length ≤ maxL)
    (body : ∀ (p : Program) (e : Env) (s : State) (m : MethodId) (below : List Frame) (meth : Method) (c : Code) (A : Nat → Prop) (ls : Array Slot), p.tables.exec = Jvm.exec → c.code = cc → meth.sig.returnType = ret → c.maxLocals = maxL → s.vm.findClass y.cls = some m.cls → (∀ q ∈ zG, q.before av.toArray s = true) → meth.locks = false → meth.name = y.name → (∀ q, s.heap.size ≤ q → A q) → va_P D cl ws s.heap → va_K D cl tys s → va_D A ws → va_S A s.heap s.heap [] → lv_has ls maxL (lv_args 0 av) →
      W p l e rm s m av.toArray below meth c s.heap [] 0 0 (MQ below (va_Qi post (zAt D cl tys A) A) av.toArray s rm.cells rm.slots A) (F0 m 0 ls [])) : zMi l y w rm av D cl tys ws sz post := by
  refine Met.ofW (cc := cc) (maxL := maxL) (ret := ret) hy hw ?_
  intro p e s m args below meth c s₁ B hml hv
  obtain ⟨rfl, hsz, hP, hK, hD0⟩ := hv
  have hD := hD0.self (sz := sz)
  have hl := lv_entry av (n := maxL) hn
  rw [lg_entry_eq]
  generalize (lg_sl av ++ List.replicate (maxL - (lg_sl av).length) Slot.unset).toArray = ls at hl ⊢
  exact body p e s m below meth c (va_A ws sz) ls B.exec B.bytes B.returns hml (findClass_of_methodNamed B.named) (fun q h => atoms_spec (ws := w) B.pre q (by rw [hw]; exact List.mem_cons_of_mem _ h)) B.notSynchronized (name_of_methodNamed B.named B.method).1 (fun q h => Or.inr (by omega)) hP hK hD va_S.rf hl
theorem z_ci {post : Int32 → va_W → Prop} {mc ms : Nat} {av : Array Value} (hP : va_P D cl ws H) (hD : va_D A ws) (hS : va_S A H0 H locs) (hA : ∀ q, H0.size ≤ q → A q) (isC isR : List Nat) (hC1 : isC.filterMap (fun i => ws[i]?) = wc) (hC : isC.map (fun i => ws[i]?) = wc.map some) (hR : isR.map (fun i => ws[i]?) = wr.map some) (hn : va_nd isC = true ∧ va_nd isR = true ∧ ∀ i ∈ isR, i ∉ isC)
    (hr : va_P D cl wc H → va_D (fun _ => True) wc → va_Run p l e R s m args below meth c H locs cells slots mc ms (F0 m pc ls st0) rest (va_Qi post (zAt D cl tys (va_A wc H.size)) (va_A wc H.size) av) (va_A wc H.size))
    (kk : ∀ (r : Int32) (u : va_W) (H1 : Heap) (locs1 : List Loc), post r u → va_P D cl (wr ++ u) H1 → va_D A (wr ++ u) → va_S A H0 H1 locs1 → W p l e R s m args below meth c H1 locs1 (cells + mc) (slots + ms) Q (F0 m (pc + 3) ls (.int r :: rest))) : W p l e R s m args below meth c H locs cells slots Q (F0 m pc ls st0) := by
  have hPc : va_P D cl wc H := hP.sub isC hC1
  have hDc : va_D A wc := hD.sub isC hn.1 hC
  have hFc := va_free hD hS hA isC hC
  refine va_calli (hr hPc (hDc.weaken (fun _ _ _ _ => trivial))) hS (fun q _ h => hFc q h) hFc (fun r u t H1 locs1 ht hvm hw hB hz1 hk1 hS1 => ?_)
  obtain ⟨hP1, hK1, hD1⟩ := hB
  rw [ht] at hP1
  obtain ⟨hP2, hD2⟩ := va_join (wr := wr) (w1 := u) hP hD isC isR hC hR hn.2.1 hn.2.2 hk1 hFc hP1 hD1
  exact kk r u H1 locs1 hw hP2 hD2 hS1
theorem z_Vi {post : Int32 → va_W → Prop} {y : MethodName} {bytes : ByteArray} {maxL nL n index b : Nat} {ret : Option FieldType} {w Ts : List Cond} {rm : Room} {own C : String} {T : u_T} {N : Nat} {fs As : List Value}
    (S : CallFix p m c cc nL s args Ts own) (hK : va_K D cl tys s) (hP : va_P D cl ws H) (hD : va_D A ws) (hS : va_S A H0 H locs) (hA : ∀ q, H0.size ≤ q → A q) (hM : zMi l y w rm (.ref b :: As) D cl tys wc H.size post) (cw : CallW R s args own C index y bytes maxL ret w rm rm.cells rm.slots n)
    (q0 ci : Nat) (hcq : cl[ci]? = some (C, T, N)) (he : ws[q0]? = some (b, .inr (ci, fs))) (isC isR : List Nat) (hC1 : isC.filterMap (fun i => ws[i]?) = wc) (hC : isC.map (fun i => ws[i]?) = wc.map some) (hR : isR.map (fun i => ws[i]?) = wr.map some) (hn : va_nd isC = true ∧ va_nd isR = true ∧ ∀ i ∈ isR, i ∉ isC)
    (hAs : As.length = n) (hsz : ls.size = nL) (hst : st0 = As.reverse ++ .ref b :: rest) (hrm : (rest.map fun v => v.category).sum ≤ 8) (hdg : decode cc pc = .ok (.invokevirtual index, 3)) (hf : cells + rm.cells ≤ R.cells ∧ slots + rm.slots ≤ R.slots)
    (kk : ∀ (r : Int32) (u : va_W) (H1 : Heap) (locs1 : List Loc), post r u → va_P D cl (wr ++ u) H1 → va_D A (wr ++ u) → va_S A H0 H1 locs1 → W p l e R s m args below meth c H1 locs1 (cells + rm.cells) (slots + rm.slots) Q (F0 m (pc + 3) ls (.int r :: rest))) : W p l e R s m args below meth c H locs cells slots Q (F0 m pc ls st0) :=
  z_ci hP hD hS hA isC isR hC1 hC hR hn (fun hPc hDc => va_runV (As := As) (rest := rest) S hM cw ⟨z_blind, va_recv hK hP hcq he, fun U hU hW => ⟨rfl, by rw [hU], by rw [hU]; exact hPc, va_K.moved hW.alike hK, hDc⟩⟩ rfl hAs hsz hst (lv_room hrm) hdg hf) kk
theorem z_Si {post : Int32 → va_W → Prop} {y : MethodName} {bytes : ByteArray} {maxL nL n index : Nat} {ret : Option FieldType} {w Ts : List Cond} {rm : Room} {own : String} {As : List Value}
    (S : CallFix p m c cc nL s args Ts own) (hK : va_K D cl tys s) (hP : va_P D cl ws H) (hD : va_D A ws) (hS : va_S A H0 H locs) (hA : ∀ q, H0.size ≤ q → A q) (hM : zMi l y w rm As D cl tys wc H.size post) (cw : CallB R s args own index y bytes maxL ret w rm rm.cells rm.slots n ∧ (Cond.static y).before args s = true)
    (isC isR : List Nat) (hC1 : isC.filterMap (fun i => ws[i]?) = wc) (hC : isC.map (fun i => ws[i]?) = wc.map some) (hR : isR.map (fun i => ws[i]?) = wr.map some) (hn : va_nd isC = true ∧ va_nd isR = true ∧ ∀ i ∈ isR, i ∉ isC)
    (hAs : As.length = n) (hsz : ls.size = nL) (hst : st0 = As.reverse ++ rest) (hrm : (rest.map fun v => v.category).sum ≤ 8) (hdg : decode cc pc = .ok (.invokestatic index, 3)) (hf : cells + rm.cells ≤ R.cells ∧ slots + rm.slots ≤ R.slots)
    (kk : ∀ (r : Int32) (u : va_W) (H1 : Heap) (locs1 : List Loc), post r u → va_P D cl (wr ++ u) H1 → va_D A (wr ++ u) → va_S A H0 H1 locs1 → W p l e R s m args below meth c H1 locs1 (cells + rm.cells) (slots + rm.slots) Q (F0 m (pc + 3) ls (.int r :: rest))) : W p l e R s m args below meth c H locs cells slots Q (F0 m pc ls st0) :=
  z_ci hP hD hS hA isC isR hC1 hC hR hn (fun hPc hDc => va_runS (As := As) (rest := rest) S hM cw ⟨z_blind, fun U hU hW => ⟨rfl, by rw [hU], by rw [hU]; exact hPc, va_K.moved hW.alike hK, hDc⟩⟩ rfl hAs hsz hst (lv_room hrm) hdg hf) kk
abbrev zMl (l : Launch) (y : MethodName) (w : List Cond) (rm : Room) (av : List Value) (D : va_G) (cl : List vw_C) (tys : List (ClassId × FieldType)) (ws : va_W) (sz : Nat) (post : Int64 → va_W → Prop) : Prop := Met l y w rm (va_Pc av (zPre D cl tys ws sz)) (va_Ql post (zAt D cl tys (va_A ws sz)) (va_A ws sz)) rm.cells rm.slots (va_A ws sz)
theorem z_ofl {y : MethodName} {w : List Cond} {rm : Room} {av : List Value} {sz maxL : Nat} {post : Int64 → va_W → Prop} {ret : Option FieldType} (hy : plainName y.cls = true) (hw : w = Cond.code y cc maxL ret :: zG) (hn : (lg_sl av).length ≤ maxL)
    (body : ∀ (p : Program) (e : Env) (s : State) (m : MethodId) (below : List Frame) (meth : Method) (c : Code) (A : Nat → Prop) (ls : Array Slot), p.tables.exec = Jvm.exec → c.code = cc → meth.sig.returnType = ret → c.maxLocals = maxL → s.vm.findClass y.cls = some m.cls → (∀ q ∈ zG, q.before av.toArray s = true) → meth.locks = false → meth.name = y.name → (∀ q, s.heap.size ≤ q → A q) → va_P D cl ws s.heap → va_K D cl tys s → va_D A ws → va_S A s.heap s.heap [] → lv_has ls maxL (lv_args 0 av) →
      W p l e rm s m av.toArray below meth c s.heap [] 0 0 (MQ below (va_Ql post (zAt D cl tys A) A) av.toArray s rm.cells rm.slots A) (F0 m 0 ls [])) : zMl l y w rm av D cl tys ws sz post := by
  refine Met.ofW (cc := cc) (maxL := maxL) (ret := ret) hy hw ?_
  intro p e s m args below meth c s₁ B hml hv
  obtain ⟨rfl, hsz, hP, hK, hD0⟩ := hv
  have hD := hD0.self (sz := sz)
  have hl := lv_entry av (n := maxL) hn
  rw [lg_entry_eq]
  generalize (lg_sl av ++ List.replicate (maxL - (lg_sl av).length) Slot.unset).toArray = ls at hl ⊢
  exact body p e s m below meth c (va_A ws sz) ls B.exec B.bytes B.returns hml (findClass_of_methodNamed B.named) (fun q h => atoms_spec (ws := w) B.pre q (by rw [hw]; exact List.mem_cons_of_mem _ h)) B.notSynchronized (name_of_methodNamed B.named B.method).1 (fun q h => Or.inr (by omega)) hP hK hD va_S.rf hl
theorem z_cl {post : Int64 → va_W → Prop} {mc ms : Nat} {av : Array Value} (hP : va_P D cl ws H) (hD : va_D A ws) (hS : va_S A H0 H locs) (hA : ∀ q, H0.size ≤ q → A q) (isC isR : List Nat) (hC1 : isC.filterMap (fun i => ws[i]?) = wc) (hC : isC.map (fun i => ws[i]?) = wc.map some) (hR : isR.map (fun i => ws[i]?) = wr.map some) (hn : va_nd isC = true ∧ va_nd isR = true ∧ ∀ i ∈ isR, i ∉ isC)
    (hr : va_P D cl wc H → va_D (fun _ => True) wc → va_Run p l e R s m args below meth c H locs cells slots mc ms (F0 m pc ls st0) rest (va_Ql post (zAt D cl tys (va_A wc H.size)) (va_A wc H.size) av) (va_A wc H.size))
    (kk : ∀ (r : Int64) (u : va_W) (H1 : Heap) (locs1 : List Loc), post r u → va_P D cl (wr ++ u) H1 → va_D A (wr ++ u) → va_S A H0 H1 locs1 → W p l e R s m args below meth c H1 locs1 (cells + mc) (slots + ms) Q (F0 m (pc + 3) ls (.long r :: rest))) : W p l e R s m args below meth c H locs cells slots Q (F0 m pc ls st0) := by
  have hPc : va_P D cl wc H := hP.sub isC hC1
  have hDc : va_D A wc := hD.sub isC hn.1 hC
  have hFc := va_free hD hS hA isC hC
  refine va_calll (hr hPc (hDc.weaken (fun _ _ _ _ => trivial))) hS (fun q _ h => hFc q h) hFc (fun r u t H1 locs1 ht hvm hw hB hz1 hk1 hS1 => ?_)
  obtain ⟨hP1, hK1, hD1⟩ := hB
  rw [ht] at hP1
  obtain ⟨hP2, hD2⟩ := va_join (wr := wr) (w1 := u) hP hD isC isR hC hR hn.2.1 hn.2.2 hk1 hFc hP1 hD1
  exact kk r u H1 locs1 hw hP2 hD2 hS1
theorem z_Vl {post : Int64 → va_W → Prop} {y : MethodName} {bytes : ByteArray} {maxL nL n index b : Nat} {ret : Option FieldType} {w Ts : List Cond} {rm : Room} {own C : String} {T : u_T} {N : Nat} {fs As : List Value}
    (S : CallFix p m c cc nL s args Ts own) (hK : va_K D cl tys s) (hP : va_P D cl ws H) (hD : va_D A ws) (hS : va_S A H0 H locs) (hA : ∀ q, H0.size ≤ q → A q) (hM : zMl l y w rm (.ref b :: As) D cl tys wc H.size post) (cw : CallW R s args own C index y bytes maxL ret w rm rm.cells rm.slots n)
    (q0 ci : Nat) (hcq : cl[ci]? = some (C, T, N)) (he : ws[q0]? = some (b, .inr (ci, fs))) (isC isR : List Nat) (hC1 : isC.filterMap (fun i => ws[i]?) = wc) (hC : isC.map (fun i => ws[i]?) = wc.map some) (hR : isR.map (fun i => ws[i]?) = wr.map some) (hn : va_nd isC = true ∧ va_nd isR = true ∧ ∀ i ∈ isR, i ∉ isC)
    (hAs : As.length = n) (hsz : ls.size = nL) (hst : st0 = As.reverse ++ .ref b :: rest) (hrm : (rest.map fun v => v.category).sum ≤ 8) (hdg : decode cc pc = .ok (.invokevirtual index, 3)) (hf : cells + rm.cells ≤ R.cells ∧ slots + rm.slots ≤ R.slots)
    (kk : ∀ (r : Int64) (u : va_W) (H1 : Heap) (locs1 : List Loc), post r u → va_P D cl (wr ++ u) H1 → va_D A (wr ++ u) → va_S A H0 H1 locs1 → W p l e R s m args below meth c H1 locs1 (cells + rm.cells) (slots + rm.slots) Q (F0 m (pc + 3) ls (.long r :: rest))) : W p l e R s m args below meth c H locs cells slots Q (F0 m pc ls st0) :=
  z_cl hP hD hS hA isC isR hC1 hC hR hn (fun hPc hDc => va_runV (As := As) (rest := rest) S hM cw ⟨z_blind, va_recv hK hP hcq he, fun U hU hW => ⟨rfl, by rw [hU], by rw [hU]; exact hPc, va_K.moved hW.alike hK, hDc⟩⟩ rfl hAs hsz hst (lv_room hrm) hdg hf) kk
theorem z_Sl {post : Int64 → va_W → Prop} {y : MethodName} {bytes : ByteArray} {maxL nL n index : Nat} {ret : Option FieldType} {w Ts : List Cond} {rm : Room} {own : String} {As : List Value}
    (S : CallFix p m c cc nL s args Ts own) (hK : va_K D cl tys s) (hP : va_P D cl ws H) (hD : va_D A ws) (hS : va_S A H0 H locs) (hA : ∀ q, H0.size ≤ q → A q) (hM : zMl l y w rm As D cl tys wc H.size post) (cw : CallB R s args own index y bytes maxL ret w rm rm.cells rm.slots n ∧ (Cond.static y).before args s = true)
    (isC isR : List Nat) (hC1 : isC.filterMap (fun i => ws[i]?) = wc) (hC : isC.map (fun i => ws[i]?) = wc.map some) (hR : isR.map (fun i => ws[i]?) = wr.map some) (hn : va_nd isC = true ∧ va_nd isR = true ∧ ∀ i ∈ isR, i ∉ isC)
    (hAs : As.length = n) (hsz : ls.size = nL) (hst : st0 = As.reverse ++ rest) (hrm : (rest.map fun v => v.category).sum ≤ 8) (hdg : decode cc pc = .ok (.invokestatic index, 3)) (hf : cells + rm.cells ≤ R.cells ∧ slots + rm.slots ≤ R.slots)
    (kk : ∀ (r : Int64) (u : va_W) (H1 : Heap) (locs1 : List Loc), post r u → va_P D cl (wr ++ u) H1 → va_D A (wr ++ u) → va_S A H0 H1 locs1 → W p l e R s m args below meth c H1 locs1 (cells + rm.cells) (slots + rm.slots) Q (F0 m (pc + 3) ls (.long r :: rest))) : W p l e R s m args below meth c H locs cells slots Q (F0 m pc ls st0) :=
  z_cl hP hD hS hA isC isR hC1 hC hR hn (fun hPc hDc => va_runS (As := As) (rest := rest) S hM cw ⟨z_blind, fun U hU hW => ⟨rfl, by rw [hU], by rw [hU]; exact hPc, va_K.moved hW.alike hK, hDc⟩⟩ rfl hAs hsz hst (lv_room hrm) hdg hf) kk
abbrev zMv (l : Launch) (y : MethodName) (w : List Cond) (rm : Room) (av : List Value) (D : va_G) (cl : List vw_C) (tys : List (ClassId × FieldType)) (ws : va_W) (sz : Nat) (post : va_W → Prop) : Prop := Met l y w rm (va_Pc av (zPre D cl tys ws sz)) (va_Qv post (zAt D cl tys (va_A ws sz)) (va_A ws sz)) rm.cells rm.slots (va_A ws sz)
theorem z_ofv {y : MethodName} {w : List Cond} {rm : Room} {av : List Value} {sz maxL : Nat} {post : va_W → Prop} {ret : Option FieldType} (hy : plainName y.cls = true) (hw : w = Cond.code y cc maxL ret :: zG) (hn : (lg_sl av).length ≤ maxL)
    (body : ∀ (p : Program) (e : Env) (s : State) (m : MethodId) (below : List Frame) (meth : Method) (c : Code) (A : Nat → Prop) (ls : Array Slot), p.tables.exec = Jvm.exec → c.code = cc → meth.sig.returnType = ret → c.maxLocals = maxL → s.vm.findClass y.cls = some m.cls → (∀ q ∈ zG, q.before av.toArray s = true) → meth.locks = false → meth.name = y.name → (∀ q, s.heap.size ≤ q → A q) → va_P D cl ws s.heap → va_K D cl tys s → va_D A ws → va_S A s.heap s.heap [] → lv_has ls maxL (lv_args 0 av) →
      W p l e rm s m av.toArray below meth c s.heap [] 0 0 (MQ below (va_Qv post (zAt D cl tys A) A) av.toArray s rm.cells rm.slots A) (F0 m 0 ls [])) : zMv l y w rm av D cl tys ws sz post := by
  refine Met.ofW (cc := cc) (maxL := maxL) (ret := ret) hy hw ?_
  intro p e s m args below meth c s₁ B hml hv
  obtain ⟨rfl, hsz, hP, hK, hD0⟩ := hv
  have hD := hD0.self (sz := sz)
  have hl := lv_entry av (n := maxL) hn
  rw [lg_entry_eq]
  generalize (lg_sl av ++ List.replicate (maxL - (lg_sl av).length) Slot.unset).toArray = ls at hl ⊢
  exact body p e s m below meth c (va_A ws sz) ls B.exec B.bytes B.returns hml (findClass_of_methodNamed B.named) (fun q h => atoms_spec (ws := w) B.pre q (by rw [hw]; exact List.mem_cons_of_mem _ h)) B.notSynchronized (name_of_methodNamed B.named B.method).1 (fun q h => Or.inr (by omega)) hP hK hD va_S.rf hl
theorem z_cv {post : va_W → Prop} {mc ms : Nat} {av : Array Value} (hP : va_P D cl ws H) (hD : va_D A ws) (hS : va_S A H0 H locs) (hA : ∀ q, H0.size ≤ q → A q) (isC isR : List Nat) (hC1 : isC.filterMap (fun i => ws[i]?) = wc) (hC : isC.map (fun i => ws[i]?) = wc.map some) (hR : isR.map (fun i => ws[i]?) = wr.map some) (hn : va_nd isC = true ∧ va_nd isR = true ∧ ∀ i ∈ isR, i ∉ isC)
    (hr : va_P D cl wc H → va_D (fun _ => True) wc → va_Run p l e R s m args below meth c H locs cells slots mc ms (F0 m pc ls st0) rest (va_Qv post (zAt D cl tys (va_A wc H.size)) (va_A wc H.size) av) (va_A wc H.size))
    (kk : ∀ (u : va_W) (H1 : Heap) (locs1 : List Loc), post u → va_P D cl (wr ++ u) H1 → va_D A (wr ++ u) → va_S A H0 H1 locs1 → W p l e R s m args below meth c H1 locs1 (cells + mc) (slots + ms) Q (F0 m (pc + 3) ls (rest))) : W p l e R s m args below meth c H locs cells slots Q (F0 m pc ls st0) := by
  have hPc : va_P D cl wc H := hP.sub isC hC1
  have hDc : va_D A wc := hD.sub isC hn.1 hC
  have hFc := va_free hD hS hA isC hC
  refine va_callv (hr hPc (hDc.weaken (fun _ _ _ _ => trivial))) hS (fun q _ h => hFc q h) hFc (fun u t H1 locs1 ht hvm hw hB hz1 hk1 hS1 => ?_)
  obtain ⟨hP1, hK1, hD1⟩ := hB
  rw [ht] at hP1
  obtain ⟨hP2, hD2⟩ := va_join (wr := wr) (w1 := u) hP hD isC isR hC hR hn.2.1 hn.2.2 hk1 hFc hP1 hD1
  exact kk u H1 locs1 hw hP2 hD2 hS1
theorem z_Vv {post : va_W → Prop} {y : MethodName} {bytes : ByteArray} {maxL nL n index b : Nat} {ret : Option FieldType} {w Ts : List Cond} {rm : Room} {own C : String} {T : u_T} {N : Nat} {fs As : List Value}
    (S : CallFix p m c cc nL s args Ts own) (hK : va_K D cl tys s) (hP : va_P D cl ws H) (hD : va_D A ws) (hS : va_S A H0 H locs) (hA : ∀ q, H0.size ≤ q → A q) (hM : zMv l y w rm (.ref b :: As) D cl tys wc H.size post) (cw : CallW R s args own C index y bytes maxL ret w rm rm.cells rm.slots n)
    (q0 ci : Nat) (hcq : cl[ci]? = some (C, T, N)) (he : ws[q0]? = some (b, .inr (ci, fs))) (isC isR : List Nat) (hC1 : isC.filterMap (fun i => ws[i]?) = wc) (hC : isC.map (fun i => ws[i]?) = wc.map some) (hR : isR.map (fun i => ws[i]?) = wr.map some) (hn : va_nd isC = true ∧ va_nd isR = true ∧ ∀ i ∈ isR, i ∉ isC)
    (hAs : As.length = n) (hsz : ls.size = nL) (hst : st0 = As.reverse ++ .ref b :: rest) (hrm : (rest.map fun v => v.category).sum ≤ 8) (hdg : decode cc pc = .ok (.invokevirtual index, 3)) (hf : cells + rm.cells ≤ R.cells ∧ slots + rm.slots ≤ R.slots)
    (kk : ∀ (u : va_W) (H1 : Heap) (locs1 : List Loc), post u → va_P D cl (wr ++ u) H1 → va_D A (wr ++ u) → va_S A H0 H1 locs1 → W p l e R s m args below meth c H1 locs1 (cells + rm.cells) (slots + rm.slots) Q (F0 m (pc + 3) ls (rest))) : W p l e R s m args below meth c H locs cells slots Q (F0 m pc ls st0) :=
  z_cv hP hD hS hA isC isR hC1 hC hR hn (fun hPc hDc => va_runV (As := As) (rest := rest) S hM cw ⟨z_blind, va_recv hK hP hcq he, fun U hU hW => ⟨rfl, by rw [hU], by rw [hU]; exact hPc, va_K.moved hW.alike hK, hDc⟩⟩ rfl hAs hsz hst (lv_room hrm) hdg hf) kk
theorem z_Sv {post : va_W → Prop} {y : MethodName} {bytes : ByteArray} {maxL nL n index : Nat} {ret : Option FieldType} {w Ts : List Cond} {rm : Room} {own : String} {As : List Value}
    (S : CallFix p m c cc nL s args Ts own) (hK : va_K D cl tys s) (hP : va_P D cl ws H) (hD : va_D A ws) (hS : va_S A H0 H locs) (hA : ∀ q, H0.size ≤ q → A q) (hM : zMv l y w rm As D cl tys wc H.size post) (cw : CallB R s args own index y bytes maxL ret w rm rm.cells rm.slots n ∧ (Cond.static y).before args s = true)
    (isC isR : List Nat) (hC1 : isC.filterMap (fun i => ws[i]?) = wc) (hC : isC.map (fun i => ws[i]?) = wc.map some) (hR : isR.map (fun i => ws[i]?) = wr.map some) (hn : va_nd isC = true ∧ va_nd isR = true ∧ ∀ i ∈ isR, i ∉ isC)
    (hAs : As.length = n) (hsz : ls.size = nL) (hst : st0 = As.reverse ++ rest) (hrm : (rest.map fun v => v.category).sum ≤ 8) (hdg : decode cc pc = .ok (.invokestatic index, 3)) (hf : cells + rm.cells ≤ R.cells ∧ slots + rm.slots ≤ R.slots)
    (kk : ∀ (u : va_W) (H1 : Heap) (locs1 : List Loc), post u → va_P D cl (wr ++ u) H1 → va_D A (wr ++ u) → va_S A H0 H1 locs1 → W p l e R s m args below meth c H1 locs1 (cells + rm.cells) (slots + rm.slots) Q (F0 m (pc + 3) ls (rest))) : W p l e R s m args below meth c H locs cells slots Q (F0 m pc ls st0) :=
  z_cv hP hD hS hA isC isR hC1 hC hR hn (fun hPc hDc => va_runS (As := As) (rest := rest) S hM cw ⟨z_blind, fun U hU hW => ⟨rfl, by rw [hU], by rw [hU]; exact hPc, va_K.moved hW.alike hK, hDc⟩⟩ rfl hAs hsz hst (lv_room hrm) hdg hf) kk
theorem z_I {post : va_W → Prop} {y : MethodName} {bytes : ByteArray} {maxL nL n index b : Nat} {w Ts : List Cond} {rm : Room} {own : String} {As : List Value}
    (S : CallFix p m c cc nL s args Ts own) (hK : va_K D cl tys s) (hP : va_P D cl ws H) (hD : va_D A ws) (hS : va_S A H0 H locs) (hA : ∀ q, H0.size ≤ q → A q) (hM : zMv l y w rm (.ref b :: As) D cl tys wc H.size post) (cw : CallB R s args own index y bytes maxL none w rm rm.cells rm.slots n ∧ y.name = "<init>" ∧ (Cond.instanceMethod y).before args s = true)
    (isC isR : List Nat) (hC1 : isC.filterMap (fun i => ws[i]?) = wc) (hC : isC.map (fun i => ws[i]?) = wc.map some) (hR : isR.map (fun i => ws[i]?) = wr.map some) (hn : va_nd isC = true ∧ va_nd isR = true ∧ ∀ i ∈ isR, i ∉ isC)
    (hAs : As.length = n) (hsz : ls.size = nL) (hst : st0 = As.reverse ++ .ref b :: rest) (hrm : (rest.map fun v => v.category).sum ≤ 8) (hdg : decode cc pc = .ok (.invokespecial index, 3)) (hf : cells + rm.cells ≤ R.cells ∧ slots + rm.slots ≤ R.slots)
    (kk : ∀ (u : va_W) (H1 : Heap) (locs1 : List Loc), post u → va_P D cl (wr ++ u) H1 → va_D A (wr ++ u) → va_S A H0 H1 locs1 → W p l e R s m args below meth c H1 locs1 (cells + rm.cells) (slots + rm.slots) Q (F0 m (pc + 3) ls rest)) : W p l e R s m args below meth c H locs cells slots Q (F0 m pc ls st0) :=
  z_cv hP hD hS hA isC isR hC1 hC hR hn (fun hPc hDc => va_runI (As := As) (rest := rest) S hM cw ⟨z_blind, fun U hU hW => ⟨rfl, by rw [hU], by rw [hU]; exact hPc, va_K.moved hW.alike hK, hDc⟩⟩ rfl hAs hsz hst (lv_room hrm) hdg hf) kk
theorem z_iret {post : Int32 → va_W → Prop} {v : Int32} {mc ms : Nat} (hx : p.tables.exec = Jvm.exec) (hb : c.code = cc) (hr : meth.sig.returnType = some .int) (hlocks : meth.locks = false) (hP : va_P D cl ws H) (hK : va_K D cl tys s) (hD : va_D A ws) (hS : va_S A s.heap H locs) (hdg : decode cc pc = .ok (.ireturn, 1)) (h1 : cells ≤ mc) (h2 : slots ≤ ms) (hp : post v ws) : W p l e R s m args below meth c H locs cells slots (MQ below (va_Qi post (zAt D cl tys A) A) args s mc ms A) (F0 m pc ls [.int v]) :=
  W.widen h1 h2 (W.iret hx hb hr (fun t ht hW => ⟨⟨v, ws, rfl, hp, by rw [ht]; exact hP, va_K.moved hW.alike hK, hD⟩, hS.F ht⟩) hS.2.2 hdg hlocks)
theorem z_zret {post : Int32 → va_W → Prop} {v : Int32} {mc ms : Nat} (hx : p.tables.exec = Jvm.exec) (hb : c.code = cc) (hr : meth.sig.returnType = some .boolean) (hlocks : meth.locks = false) (hP : va_P D cl ws H) (hK : va_K D cl tys s) (hD : va_D A ws) (hS : va_S A s.heap H locs) (hdg : decode cc pc = .ok (.ireturn, 1)) (h1 : cells ≤ mc) (h2 : slots ≤ ms) (hv : narrow .boolean (.int v) = .int v) (hp : post v ws) : W p l e R s m args below meth c H locs cells slots (MQ below (va_Qi post (zAt D cl tys A) A) args s mc ms A) (F0 m pc ls [.int v]) :=
  W.widen h1 h2 (W.zret hx hb hr hv (fun t ht hW => ⟨⟨v, ws, rfl, hp, by rw [ht]; exact hP, va_K.moved hW.alike hK, hD⟩, hS.F ht⟩) hS.2.2 hdg hlocks)
theorem z_lret {post : Int64 → va_W → Prop} {v : Int64} {mc ms : Nat} (hx : p.tables.exec = Jvm.exec) (hb : c.code = cc) (hr : meth.sig.returnType = some .long) (hlocks : meth.locks = false) (hP : va_P D cl ws H) (hK : va_K D cl tys s) (hD : va_D A ws) (hS : va_S A s.heap H locs) (hdg : decode cc pc = .ok (.lreturn, 1)) (h1 : cells ≤ mc) (h2 : slots ≤ ms) (hp : post v ws) : W p l e R s m args below meth c H locs cells slots (MQ below (va_Ql post (zAt D cl tys A) A) args s mc ms A) (F0 m pc ls [.long v]) :=
  W.widen h1 h2 (W.lret hx hb hr (fun t ht hW => ⟨⟨v, ws, rfl, hp, by rw [ht]; exact hP, va_K.moved hW.alike hK, hD⟩, hS.F ht⟩) hS.2.2 hdg hlocks)
theorem z_vret {post : va_W → Prop} {mc ms : Nat} (hx : p.tables.exec = Jvm.exec) (hb : c.code = cc) (hr : meth.sig.returnType = none) (hlocks : meth.locks = false) (hP : va_P D cl ws H) (hK : va_K D cl tys s) (hD : va_D A ws) (hS : va_S A s.heap H locs) (hdg : decode cc pc = .ok (.return_, 1)) (h1 : cells ≤ mc) (h2 : slots ≤ ms) (hp : post ws) : W p l e R s m args below meth c H locs cells slots (MQ below (va_Qv post (zAt D cl tys A) A) args s mc ms A) (F0 m pc ls []) :=
  W.widen h1 h2 (W.vret hx hb hr (fun t ht hW => ⟨⟨ws, rfl, hp, by rw [ht]; exact hP, va_K.moved hW.alike hK, hD⟩, hS.F ht⟩) hS.2.2 hdg hlocks)
end ZK
end
section
theorem wb_tb (n : Nat) : (lN n).toBitVec = BitVec.ofNat 64 n := rfl
theorem wb_inj {a b : Int64} (h : a.toBitVec = b.toBitVec) : a = b := Int64.toBitVec_inj.mp h
theorem wb_tn {n : Nat} (h : n < 2 ^ 64) : (lN n).toBitVec.toNat = n := by rw [wb_tb, BitVec.toNat_ofNat, Nat.mod_eq_of_lt h]
theorem wb_of (x : Int64) : ∃ n, n < 2 ^ 64 ∧ x = lN n := ⟨x.toBitVec.toNat, x.toBitVec.isLt, wb_inj (by rw [wb_tb]; simp)⟩
theorem wb_of32 (x : Int32) : ∃ n, n < 2 ^ 32 ∧ x = nI n := ⟨x.toBitVec.toNat, x.toBitVec.isLt, Int32.toBitVec_inj.mp (by show _ = BitVec.ofNat 32 _; simp)⟩
theorem wb_c : ∀ k, k < 64 → ((nI k).toInt64 &&& 63) = lN k := by decide +kernel
theorem wb_cu : ∀ k, k < 64 → ((nI k).toInt64.toUInt64 &&& Int64.toUInt64 63) = UInt64.ofNat k := by decide +kernel
theorem wb_sm : ∀ k, k < 64 → (BitVec.ofNat 64 k).smod 64 = BitVec.ofNat 64 k := by decide +kernel
theorem wb_pw {a b : Nat} (h : a ≤ b) : 2 ^ b = 2 ^ a * 2 ^ (b - a) := by rw [← Nat.pow_add]; congr 1; omega
theorem wb_lt2 {a b : Nat} (h : a < b) : 2 ^ a < 2 ^ b := Nat.pow_lt_pow_right (by decide) h
theorem wb_mod (n : Nat) : lN n = lN (n % 2 ^ 64) := wb_inj (by rw [wb_tb, wb_tb]; apply BitVec.eq_of_toNat_eq; rw [BitVec.toNat_ofNat, BitVec.toNat_ofNat, Nat.mod_mod])
theorem wb_shr {n k : Nat} (hn : n < 2 ^ 64) (hk : k < 64) : ((lN n).toUInt64 >>> ((nI k).toInt64.toUInt64 &&& Int64.toUInt64 63)).toInt64 = lN (n / 2 ^ k) := by
  rw [wb_cu k hk]
  apply wb_inj
  apply BitVec.eq_of_toNat_eq
  show ((lN n).toUInt64 >>> UInt64.ofNat k).toNat = (BitVec.ofNat 64 _).toNat
  have h1 : (UInt64.ofNat k).toNat = k := by
    show (BitVec.ofNat 64 k).toNat = k
    rw [BitVec.toNat_ofNat, Nat.mod_eq_of_lt (by omega)]
  have h2 : (lN n).toUInt64.toNat = n := wb_tn hn
  rw [UInt64.toNat_shiftRight, h1, h2, Nat.mod_eq_of_lt hk, Nat.shiftRight_eq_div_pow, BitVec.toNat_ofNat, Nat.mod_eq_of_lt (Nat.lt_of_le_of_lt (Nat.div_le_self _ _) hn)]
theorem z_same {s : State} {D : va_G} {cl : List vw_C} {tys : List (ClassId × FieldType)} {ty : FieldType} (hK : va_K D cl tys s) (t0 : Nat) {t1 : Nat} {c1 c2 : ClassId} (h0 : tys[t0]? = some (c1, ty)) (h1 : tys[t1]? = some (c2, ty)) (ht : ty = .int ∨ ty = .long ∨ ty = .boolean) : c1 = c2 := by
  have a := (hK.2 t0 _ h0).2
  have b := (hK.2 t1 _ h1).2
  rcases ht with rfl | rfl | rfl <;> exact Option.some.inj (a.symm.trans b)
theorem z_neg {x : Int32} {n : Nat} (hn : n < 2 ^ 31) (h : x < 0) : ∀ j, j < n → x ≠ nI j := fun j hj e => by
  rw [e] at h; exact nI_pos (Nat.lt_trans hj hn) h
theorem z_big {x : Int32} {n : Nat} (hn : n < 2 ^ 31) (h : nI n ≤ x) : ∀ j, j < n → x ≠ nI j := fun j hj e => by
  rw [e] at h; exact nI_ge hj hn h
theorem z_has {x : Int32} {n : Nat} (hn : n < 2 ^ 31) (h0 : ¬ x < 0) (h : ¬ nI n ≤ x) : ∃ j, j < n ∧ x = nI j := by
  obtain ⟨j, h1, h2, -⟩ := pk_mu h0 h hn
  exact ⟨j, h1, h2⟩
theorem z_nlt0 {j : Nat} (hj : j < 2 ^ 31) : ¬ nI j < nI 0 := by rw [nI_0]; exact nI_pos hj
/-- the least place from i on, below i + k, whose mark isn't 0; i + k without one -/
def zw (se : Nat → Int32) : Nat → Nat → Nat
  | 0, i => i
  | k + 1, i => if se i = 0 then zw se k (i + 1) else i
/-- the WINNER: n without one -/
def zwin (se : Nat → Int32) (n : Nat) : Nat := zw se n 0
theorem zw_at {se : Nat → Int32} : ∀ (k i j : Nat), i ≤ j → j < i + k → (∀ q, i ≤ q → q < j → se q = 0) → se j ≠ 0 → zw se k i = j := by
  intro k
  induction k with
  | zero => intro i j h1 h2; omega
  | succ k ih =>
    intro i j h1 h2 hz hj
    rcases Nat.eq_or_lt_of_le h1 with e | h
    · subst e; simp only [zw]; rw [if_neg hj]
    · simp only [zw]; rw [if_pos (hz i (Nat.le_refl _) h)]
      exact ih (i + 1) j h (by omega) (fun q a b => hz q (by omega) b) hj
theorem zw_no {se : Nat → Int32} : ∀ (k i : Nat), (∀ q, i ≤ q → q < i + k → se q = 0) → zw se k i = i + k := by
  intro k
  induction k with
  | zero => intro i _; rfl
  | succ k ih =>
    intro i hz
    simp only [zw]; rw [if_pos (hz i (Nat.le_refl _) (by omega)), ih (i + 1) (fun q a b => hz q (by omega) (by omega))]; omega
theorem zw_le {se : Nat → Int32} : ∀ (k i : Nat), i ≤ zw se k i ∧ zw se k i ≤ i + k ∧ (∀ q, i ≤ q → q < zw se k i → se q = 0) ∧ (zw se k i < i + k → se (zw se k i) ≠ 0) := by
  intro k
  induction k with
  | zero => intro i; simp only [zw]; exact ⟨Nat.le_refl _, Nat.le_refl _, fun q a b => by omega, fun h => by omega⟩
  | succ k ih =>
    intro i
    by_cases h : se i = 0
    · have e : zw se (k + 1) i = zw se k (i + 1) := by simp only [zw]; rw [if_pos h]
      obtain ⟨a, b, c, d⟩ := ih (i + 1)
      rw [e]
      refine ⟨by omega, by omega, fun q h1 h2 => ?_, fun h1 => d (by omega)⟩
      rcases Nat.eq_or_lt_of_le h1 with e | h3
      · rw [← e]; exact h
      · exact c q h3 h2
    · have e : zw se (k + 1) i = i := by simp only [zw]; rw [if_neg h]
      rw [e]; exact ⟨Nat.le_refl _, by omega, fun q a b => by omega, fun _ => h⟩
theorem zwin_at {se : Nat → Int32} {n j : Nat} (h : j < n) (hz : ∀ q, q < j → se q = 0) (hj : se j ≠ 0) : zwin se n = j := zw_at n 0 j (Nat.zero_le _) (by omega) (fun q _ b => hz q b) hj
theorem zwin_no {se : Nat → Int32} {n : Nat} (hz : ∀ q, q < n → se q = 0) : zwin se n = n := by
  have := zw_no (se := se) n 0 (fun q _ b => hz q (by omega))
  rw [Nat.zero_add] at this; exact this
theorem zwin_le {se : Nat → Int32} {n : Nat} : zwin se n ≤ n := by have := (zw_le (se := se) n 0).2.1; rw [Nat.zero_add] at this; exact this
theorem zwin_z {se : Nat → Int32} {n : Nat} : ∀ q, q < zwin se n → se q = 0 := fun q h => (zw_le (se := se) n 0).2.2.1 q (Nat.zero_le _) h
theorem zwin_s {se : Nat → Int32} {n : Nat} (h : zwin se n < n) : se (zwin se n) ≠ 0 := (zw_le (se := se) n 0).2.2.2 (by rw [Nat.zero_add]; exact h)
def zsum (f : Nat → Int64) : Nat → Int64
  | 0 => 0
  | k + 1 => zsum f k + f k
def zsumI (f : Nat → Int32) : Nat → Int32
  | 0 => 0
  | k + 1 => zsumI f k + f k
/-- how many places below k don't hold -1 -/
def zcnt (f : Nat → Int32) : Nat → Nat
  | 0 => 0
  | k + 1 => zcnt f k + (if f k = -1 then 0 else 1)
theorem zcnt_le (f : Nat → Int32) : ∀ k, zcnt f k ≤ k := by
  intro k
  induction k with
  | zero => exact Nat.le_refl _
  | succ k ih => simp only [zcnt]; split <;> omega
theorem zcnt_eq {f g : Nat → Int32} : ∀ k, (∀ j, j < k → (f j = -1 ↔ g j = -1)) → zcnt f k = zcnt g k := by
  intro k
  induction k with
  | zero => intro _; rfl
  | succ k ih =>
    intro h
    simp only [zcnt]
    rw [ih (fun j hj => h j (by omega))]
    have := h k (by omega)
    by_cases q : f k = -1
    · rw [if_pos q, if_pos (this.mp q)]
    · rw [if_neg q, if_neg (fun z => q (this.mpr z))]
theorem zcnt_off {f : Nat → Int32} {w : Nat} : ∀ k, w < k → f w ≠ -1 → zcnt f k = zcnt (upd f w (-1)) k + 1 := by
  intro k
  induction k with
  | zero => intro h; omega
  | succ k ih =>
    intro h hw
    simp only [zcnt]
    rcases Nat.eq_or_lt_of_le (Nat.le_of_lt_succ h) with e | h1
    · subst e
      rw [pk_us, if_neg hw, if_pos rfl]
      rw [zcnt_eq (f := f) (g := upd f w (-1)) w (fun j hj => by rw [pk_un (by omega)])]
    · rw [ih h1 hw, pk_un (f := f) (k := w) (j := k) (by omega)]; omega
theorem zcnt_on {f : Nat → Int32} {w : Nat} {x : Int32} (hx : x ≠ -1) : ∀ k, w < k → f w = -1 → zcnt (upd f w x) k = zcnt f k + 1 := by
  intro k
  induction k with
  | zero => intro h; omega
  | succ k ih =>
    intro h hw
    simp only [zcnt]
    rcases Nat.eq_or_lt_of_le (Nat.le_of_lt_succ h) with e | h1
    · subst e
      rw [pk_us, if_pos hw, if_neg hx]
      rw [zcnt_eq (f := upd f w x) (g := f) w (fun j hj => by rw [pk_un (by omega)])]
    · rw [ih h1 hw, pk_un (f := f) (k := w) (j := k) (by omega)]; omega
theorem zcnt_pos {f : Nat → Int32} {w : Nat} : ∀ k, w < k → f w ≠ -1 → 1 ≤ zcnt f k := by
  intro k h1 h2
  rw [zcnt_off k h1 h2]; omega
theorem nI_nm1 {j : Nat} (h : j < 2 ^ 31) : nI j ≠ -1 := by
  intro e
  have h1 := nI_toInt h
  rw [e] at h1
  have h2 : (-1 : Int32).toInt = -1 := by decide
  omega
theorem z_updself {f : Nat → Int32} {j : Nat} {x : Int32} (h : f j = x) : upd f j x = f := by
  funext k
  by_cases q : k = j
  · subst q; rw [pk_us, h]
  · rw [pk_un q]
/-! THE RUN, as numbers and rows: x = (held, moves, ticks of the try, spent, failures, doer, done tick, order, next, barrier, places, tick, r) -/
abbrev ZA : Type := Nat → Int32
abbrev ZS : Type := ZA × ZA × ZA × ZA × ZA × ZA × ZA × ZA × Nat × Nat × Nat × Nat × Int64
/-- those behind j have no share any more -/
def zdrop (hd : ZA) (cr j : Nat) : ZA := fun w => if w < cr ∧ nI j < hd w then -1 else hd w
/-- r's upper 31 bits modulo m -/
def zq (r : Int64) (m : Nat) : Nat := (r.toBitVec.toNat / 2 ^ 33) % m
def znext (r : Int64) : Int64 := r * 6364136223846793005 + 1442695040888963407
/-- the worker from i on that has a share and q others ahead of it -/
def zth (f : ZA) : Nat → Nat → Nat → Nat
  | 0, i, _ => i
  | k + 1, i, q => if f i = -1 then zth f k (i + 1) q else if q = 0 then i else zth f k (i + 1) (q - 1)
def zmv (cr : Nat) (x : ZS) : Nat := match x with
  | (hd, _, _, _, _, _, _, _, nx, ba, _, _, _) => if nx < ba then cr else zcnt hd cr
def zwho (cr : Nat) (hd : ZA) (nx ba : Nat) (r : Int64) : Nat := if nx < ba then zq r cr else zth hd cr 0 (zq r (zcnt hd cr))
/-- a tick of the worker w, behind the taking of a share -/
def zwork (cr : Nat) (wk se fl : ZA) (w : Nat) (r : Int64) (x : ZS) : ZS := match x with
  | (hd, mv, tt, sp, fa, dr, dt, od, nx, ba, pl, tk, _) =>
    let j := (hd w).toNatClampNeg
    if tt j + 1 < wk j then (hd, upd mv w (mv w + 1), upd tt j (tt j + 1), upd sp j (sp j + 1), fa, dr, dt, od, nx, ba, pl, tk + 1, r)
    else if fa j < fl j then (hd, upd mv w (mv w + 1), upd (upd tt j (tt j + 1)) j 0, upd sp j (sp j + 1), upd fa j (fa j + 1), dr, dt, od, nx, ba, pl, tk + 1, r)
    else if se j = 0 then (upd hd w (-1), upd mv w (mv w + 1), upd (upd tt j (tt j + 1)) j 0, upd sp j (sp j + 1), fa, upd dr j (nI w), upd dt j (nI (tk + 1)), upd od pl (nI j), nx, ba, pl + 1, tk + 1, r)
    else (zdrop (upd hd w (-1)) cr j, upd mv w (mv w + 1), upd (upd tt j (tt j + 1)) j 0, upd sp j (sp j + 1), fa, upd dr j (nI w), upd dt j (nI (tk + 1)), upd od pl (nI j), nx, j, pl + 1, tk + 1, r)
def ztake (w : Nat) (x : ZS) : ZS := match x with
  | (hd, mv, tt, sp, fa, dr, dt, od, nx, ba, pl, tk, r) => if hd w = -1 then (upd hd w (nI nx), mv, tt, sp, fa, dr, dt, od, nx + 1, ba, pl, tk, r) else x
def zstep (cr : Nat) (wk se fl : ZA) (x : ZS) : ZS := match x with
  | (hd, _, _, _, _, _, _, _, nx, ba, _, _, r) => zwork cr wk se fl (zwho cr hd nx ba (znext r)) (znext r) (ztake (zwho cr hd nx ba (znext r)) x)
def ziter (cr : Nat) (wk se fl : ZA) : Nat → ZS → ZS
  | 0, x => x
  | k + 1, x => if zmv cr x = 0 then x else ziter cr wk se fl k (zstep cr wk se fl x)
def zbeg (n : Nat) (od : ZA) (r : Int64) : ZS := (fun _ => -1, fun _ => 0, fun _ => 0, fun _ => 0, fun _ => 0, fun _ => -1, fun _ => 0, od, 0, n, 0, 0, r)
theorem zcnt_mono (f : ZA) (i : Nat) : ∀ k, zcnt f i ≤ zcnt f (i + k) := by
  intro k
  induction k with
  | zero => exact Nat.le_refl _
  | succ k ih => rw [← Nat.add_assoc]; simp only [zcnt]; omega
theorem zcnt_step {f : ZA} {i : Nat} (h : f i ≠ -1) : zcnt f (i + 1) = zcnt f i + 1 := by simp only [zcnt]; rw [if_neg h]
theorem zcnt_stay {f : ZA} {i : Nat} (h : f i = -1) : zcnt f (i + 1) = zcnt f i := by simp only [zcnt]; rw [if_pos h]; rfl
theorem zth_ok {f : ZA} : ∀ (k i q : Nat), zcnt f i + q < zcnt f (i + k) → i ≤ zth f k i q ∧ zth f k i q < i + k ∧ f (zth f k i q) ≠ -1 ∧ zcnt f (zth f k i q) = zcnt f i + q := by
  intro k
  induction k with
  | zero => intro i q h; exact absurd h (by rw [Nat.add_zero]; omega)
  | succ k ih =>
    intro i q h
    have h' : zcnt f i + q < zcnt f (i + 1 + k) := by rw [Nat.add_assoc, Nat.add_comm 1 k]; exact h
    by_cases c : f i = -1
    · have e : zth f (k + 1) i q = zth f k (i + 1) q := by simp only [zth]; rw [if_pos c]
      have s := zcnt_stay c
      obtain ⟨a, b, d, g⟩ := ih (i + 1) q (by rw [s]; exact h')
      rw [e]; exact ⟨by omega, by omega, d, by rw [g, s]⟩
    · have s := zcnt_step c
      by_cases c2 : q = 0
      · have e : zth f (k + 1) i q = i := by simp only [zth]; rw [if_neg c, if_pos c2]
        rw [e]; exact ⟨Nat.le_refl _, by omega, c, by omega⟩
      · have e : zth f (k + 1) i q = zth f k (i + 1) (q - 1) := by simp only [zth]; rw [if_neg c, if_neg c2]
        obtain ⟨a, b, d, g⟩ := ih (i + 1) (q - 1) (by omega)
        rw [e]; exact ⟨by omega, by omega, d, by omega⟩
theorem zth_is {f : ZA} {cr q w : Nat} (h1 : w < cr) (h2 : f w ≠ -1) (h3 : zcnt f w = q) : zth f cr 0 q = w := by
  have hq : zcnt f 0 + q < zcnt f (0 + cr) := by
    have := zcnt_mono f (w + 1) (cr - (w + 1))
    rw [zcnt_step h2, show w + 1 + (cr - (w + 1)) = cr by omega] at this
    rw [Nat.zero_add]; simp only [zcnt]; omega
  obtain ⟨-, b, d, g⟩ := zth_ok cr 0 q hq
  generalize zth f cr 0 q = v at b d g
  have g' : zcnt f v = q := by rw [g]; simp only [zcnt]; omega
  rcases Nat.lt_trichotomy v w with h | h | h
  · have := zcnt_mono f (v + 1) (w - (v + 1))
    rw [zcnt_step d, show v + 1 + (w - (v + 1)) = w by omega] at this
    omega
  · exact h
  · have := zcnt_mono f (w + 1) (v - (w + 1))
    rw [zcnt_step h2, show w + 1 + (v - (w + 1)) = v by omega] at this
    omega
theorem zth_in {f : ZA} {cr q : Nat} (h : q < zcnt f cr) : zth f cr 0 q < cr ∧ f (zth f cr 0 q) ≠ -1 ∧ zcnt f (zth f cr 0 q) = q := by
  obtain ⟨-, b, d, g⟩ := zth_ok (f := f) cr 0 q (by rw [Nat.zero_add]; simp only [zcnt]; omega)
  exact ⟨by omega, d, by rw [g]; simp only [zcnt]; omega⟩
theorem zq_lt {r : Int64} {m : Nat} (h : 0 < m) : zq r m < m := Nat.mod_lt _ h
theorem zdrop_cnt (f : ZA) (cr j : Nat) : ∀ k, zcnt (zdrop f cr j) k ≤ zcnt f k := by
  intro k
  induction k with
  | zero => exact Nat.le_refl _
  | succ k ih =>
    simp only [zcnt]
    by_cases c : f k = -1
    · have : zdrop f cr j k = -1 := by simp only [zdrop]; split <;> first | rfl | exact c
      rw [if_pos c, if_pos this]; omega
    · rw [if_neg c]; split <;> omega
/-- what holds of a run at each tick, as far as the class's own guards go -/
def zinv (n cr : Nat) (x : ZS) : Prop := match x with
  | (hd, _, _, _, _, _, _, _, nx, ba, pl, _, _) => nx ≤ n ∧ ba ≤ n ∧ (∀ w, w < cr → hd w = -1 ∨ ∃ j, j < nx ∧ hd w = nI j) ∧ pl + zcnt hd cr ≤ nx
section ZSteps
variable {cr n w j nx ba pl tk : Nat} {wk se fl hd mv tt sp fa dr dt od : ZA} {r r0 : Int64}
theorem zstep_of (h : zwho cr hd nx ba (znext r) = w) : zstep cr wk se fl (hd, mv, tt, sp, fa, dr, dt, od, nx, ba, pl, tk, r) = zwork cr wk se fl w (znext r) (ztake w (hd, mv, tt, sp, fa, dr, dt, od, nx, ba, pl, tk, r)) := by
  simp only [zstep]; rw [h]
theorem ztake_1 (h : hd w = -1) : ztake w (hd, mv, tt, sp, fa, dr, dt, od, nx, ba, pl, tk, r) = (upd hd w (nI nx), mv, tt, sp, fa, dr, dt, od, nx + 1, ba, pl, tk, r) := by
  simp only [ztake]; rw [if_pos h]
theorem ztake_0 (h : ¬ hd w = -1) : ztake w (hd, mv, tt, sp, fa, dr, dt, od, nx, ba, pl, tk, r) = (hd, mv, tt, sp, fa, dr, dt, od, nx, ba, pl, tk, r) := by
  simp only [ztake]; rw [if_neg h]
theorem zwork_1 (hj : j < 2 ^ 31) (e : hd w = nI j) (h : tt j + 1 < wk j) : zwork cr wk se fl w r (hd, mv, tt, sp, fa, dr, dt, od, nx, ba, pl, tk, r0) = (hd, upd mv w (mv w + 1), upd tt j (tt j + 1), upd sp j (sp j + 1), fa, dr, dt, od, nx, ba, pl, tk + 1, r) := by
  simp only [zwork]; rw [e, nI_clamp hj, if_pos h]
theorem zwork_2 (hj : j < 2 ^ 31) (e : hd w = nI j) (h : ¬ tt j + 1 < wk j) (h2 : fa j < fl j) : zwork cr wk se fl w r (hd, mv, tt, sp, fa, dr, dt, od, nx, ba, pl, tk, r0) = (hd, upd mv w (mv w + 1), upd (upd tt j (tt j + 1)) j 0, upd sp j (sp j + 1), upd fa j (fa j + 1), dr, dt, od, nx, ba, pl, tk + 1, r) := by
  simp only [zwork]; rw [e, nI_clamp hj, if_neg h, if_pos h2]
theorem zwork_3 (hj : j < 2 ^ 31) (e : hd w = nI j) (h : ¬ tt j + 1 < wk j) (h2 : ¬ fa j < fl j) (h3 : se j = 0) : zwork cr wk se fl w r (hd, mv, tt, sp, fa, dr, dt, od, nx, ba, pl, tk, r0) = (upd hd w (-1), upd mv w (mv w + 1), upd (upd tt j (tt j + 1)) j 0, upd sp j (sp j + 1), fa, upd dr j (nI w), upd dt j (nI (tk + 1)), upd od pl (nI j), nx, ba, pl + 1, tk + 1, r) := by
  simp only [zwork]; rw [e, nI_clamp hj, if_neg h, if_neg h2, if_pos h3]
theorem zwork_4 (hj : j < 2 ^ 31) (e : hd w = nI j) (h : ¬ tt j + 1 < wk j) (h2 : ¬ fa j < fl j) (h3 : ¬ se j = 0) : zwork cr wk se fl w r (hd, mv, tt, sp, fa, dr, dt, od, nx, ba, pl, tk, r0) = (zdrop (upd hd w (-1)) cr j, upd mv w (mv w + 1), upd (upd tt j (tt j + 1)) j 0, upd sp j (sp j + 1), fa, upd dr j (nI w), upd dt j (nI (tk + 1)), upd od pl (nI j), nx, j, pl + 1, tk + 1, r) := by
  simp only [zwork]; rw [e, nI_clamp hj, if_neg h, if_neg h2, if_neg h3]
/-- the mover is a worker, and where it has no share some share waits -/
theorem zwho_ok (hm : 0 < zmv cr (hd, mv, tt, sp, fa, dr, dt, od, nx, ba, pl, tk, r)) : zwho cr hd nx ba r0 < cr ∧ (hd (zwho cr hd nx ba r0) = -1 → nx < ba) := by
  simp only [zmv] at hm
  by_cases c : nx < ba
  · rw [if_pos c] at hm
    have e : zwho cr hd nx ba r0 = zq r0 cr := by simp only [zwho]; rw [if_pos c]
    rw [e]; exact ⟨zq_lt hm, fun _ => c⟩
  · rw [if_neg c] at hm
    have e : zwho cr hd nx ba r0 = zth hd cr 0 (zq r0 (zcnt hd cr)) := by simp only [zwho]; rw [if_neg c]
    obtain ⟨h1, h2, -⟩ := zth_in (f := hd) (cr := cr) (zq_lt (r := r0) hm)
    rw [e]; exact ⟨h1, fun h => absurd h h2⟩
theorem zinv_take (hn : n ≤ 16) (hw : w < cr) (hwt : hd w = -1 → nx < ba) (h : zinv n cr (hd, mv, tt, sp, fa, dr, dt, od, nx, ba, pl, tk, r)) : zinv n cr (ztake w (hd, mv, tt, sp, fa, dr, dt, od, nx, ba, pl, tk, r)) := by
  obtain ⟨h1, h2, h3, h4⟩ := h
  by_cases c : hd w = -1
  · rw [ztake_1 c]
    have hb := hwt c
    refine ⟨by omega, h2, fun v hv => ?_, ?_⟩
    · by_cases e : v = w
      · subst e; exact Or.inr ⟨nx, by omega, pk_us⟩
      · rw [pk_un e]
        rcases h3 v hv with q | ⟨i, hi, q⟩
        · exact Or.inl q
        · exact Or.inr ⟨i, by omega, q⟩
    · rw [zcnt_on (nI_nm1 (by omega)) cr hw c]; omega
  · rw [ztake_0 c]; exact ⟨h1, h2, h3, h4⟩
theorem zinv_work (hn : n ≤ 16) (hw : w < cr) (hc : hd w ≠ -1) (h : zinv n cr (hd, mv, tt, sp, fa, dr, dt, od, nx, ba, pl, tk, r0)) : zinv n cr (zwork cr wk se fl w r (hd, mv, tt, sp, fa, dr, dt, od, nx, ba, pl, tk, r0)) := by
  obtain ⟨h1, h2, h3, h4⟩ := h
  rcases h3 w hw with q | ⟨j, hj, q⟩
  · exact absurd q hc
  have hz := zcnt_off cr hw hc
  have hu : ∀ v, v < cr → upd hd w (-1) v = -1 ∨ ∃ i, i < nx ∧ upd hd w (-1) v = nI i := fun v hv => by
    by_cases e : v = w
    · subst e; exact Or.inl pk_us
    · rw [pk_un e]; exact h3 v hv
  by_cases c1 : tt j + 1 < wk j
  · rw [zwork_1 (by omega) q c1]; exact ⟨h1, h2, h3, h4⟩
  by_cases c2 : fa j < fl j
  · rw [zwork_2 (by omega) q c1 c2]; exact ⟨h1, h2, h3, h4⟩
  by_cases c3 : se j = 0
  · rw [zwork_3 (by omega) q c1 c2 c3]; exact ⟨h1, h2, hu, by omega⟩
  · rw [zwork_4 (by omega) q c1 c2 c3]
    refine ⟨h1, by omega, fun v hv => ?_, ?_⟩
    · by_cases e : nI j < upd hd w (-1) v
      · exact Or.inl (by simp only [zdrop]; rw [if_pos ⟨hv, e⟩])
      · have : zdrop (upd hd w (-1)) cr j v = upd hd w (-1) v := by simp only [zdrop]; rw [if_neg (fun z => e z.2)]
        rw [this]; exact hu v hv
    · have := zdrop_cnt (upd hd w (-1)) cr j cr; omega
end ZSteps
theorem z_nle {a b : Int32} (h : ¬ b ≤ a) : a < b := Int32.not_le.mp h
theorem z_nlt {a b : Int32} (h : b ≤ a) : ¬ a < b := Int32.not_lt.mpr h
theorem zdrop_0 {hd : ZA} {j : Nat} : zdrop hd 0 j = hd := by
  funext w; simp only [zdrop]; rw [if_neg (fun z => absurd z.1 (Nat.not_lt_zero _))]
theorem zdrop_at {hd : ZA} {k j : Nat} : zdrop hd k j k = hd k := by simp only [zdrop]; rw [if_neg (fun z => absurd z.1 (Nat.lt_irrefl _))]
theorem zdrop_stay {hd : ZA} {k j : Nat} (h : ¬ nI j < zdrop hd k j k) : zdrop hd (k + 1) j = zdrop hd k j := by
  rw [zdrop_at] at h
  funext w
  simp only [zdrop]
  by_cases c : w < k ∧ nI j < hd w
  · rw [if_pos c, if_pos ⟨by omega, c.2⟩]
  · rw [if_neg c]
    by_cases e : w = k
    · subst e; rw [if_neg (fun z => h z.2)]
    · rw [if_neg (fun z => c ⟨by omega, z.2⟩)]
theorem zdrop_step {hd : ZA} {k j : Nat} (h : nI j < zdrop hd k j k) : zdrop hd (k + 1) j = upd (zdrop hd k j) k (-1) := by
  rw [zdrop_at] at h
  funext w
  by_cases e : w = k
  · subst e; rw [pk_us]; simp only [zdrop]; rw [if_pos ⟨by omega, h⟩]
  · rw [pk_un e]; simp only [zdrop]
    by_cases c : w < k ∧ nI j < hd w
    · rw [if_pos c, if_pos ⟨by omega, c.2⟩]
    · rw [if_neg c, if_neg (fun z => c ⟨by omega, z.2⟩)]
def zmvs (cr ho nx ba : Nat) : Nat := if nx < ba then cr else ho
def zbh (hd : ZA) (cr nx ba q : Nat) : Nat := if nx < ba then q else zth hd cr 0 q
theorem zwho_zbh {cr nx ba : Nat} {hd : ZA} {r : Int64} : zwho cr hd nx ba r = zbh hd cr nx ba (zq r (zmvs cr (zcnt hd cr) nx ba)) := by
  by_cases c : nx < ba
  · simp only [zwho, zbh, zmvs]; rw [if_pos c, if_pos c, if_pos c]
  · simp only [zwho, zbh, zmvs]; rw [if_neg c, if_neg c, if_neg c]
theorem z_u31 (x : Int64) : x.toBitVec.toNat / 2 ^ 33 < 2 ^ 31 := by
  have := x.toBitVec.isLt
  omega
theorem z_ushr33 (x : Int64) : (x.toUInt64 >>> ((nI 33).toInt64.toUInt64 &&& Int64.toUInt64 63)).toInt64 = lN (x.toBitVec.toNat / 2 ^ 33) := by
  obtain ⟨n, hn, rfl⟩ := wb_of x
  rw [wb_shr hn (by decide), wb_tn hn]
section ZIter
variable {cr n w j nx ba pl tk : Nat} {wk se fl hd mv tt sp fa dr dt od : ZA} {r r0 : Int64}
theorem zinv_step (hn : n ≤ 16) (h : zinv n cr (hd, mv, tt, sp, fa, dr, dt, od, nx, ba, pl, tk, r)) (hm : 0 < zmv cr (hd, mv, tt, sp, fa, dr, dt, od, nx, ba, pl, tk, r)) : zinv n cr (zstep cr wk se fl (hd, mv, tt, sp, fa, dr, dt, od, nx, ba, pl, tk, r)) := by
  rw [zstep_of rfl]
  obtain ⟨h1, h2⟩ := zwho_ok (r0 := znext r) hm
  generalize zwho cr hd nx ba (znext r) = w at h1 h2 ⊢
  have hz := zinv_take hn h1 h2 h
  obtain ⟨a, b, -, -⟩ := h
  by_cases c : hd w = -1
  · have hb := h2 c
    rw [ztake_1 c] at hz ⊢
    exact zinv_work hn h1 (by rw [pk_us]; exact nI_nm1 (by omega)) hz
  · rw [ztake_0 c] at hz ⊢
    exact zinv_work hn h1 c hz
theorem ziter_end {x : ZS} (h : zmv cr x = 0) : ∀ k, ziter cr wk se fl k x = x := by
  intro k
  cases k with
  | zero => rfl
  | succ k => simp only [ziter]; rw [if_pos h]
theorem ziter_go {x : ZS} {k : Nat} (h : 0 < zmv cr x) : ziter cr wk se fl (k + 1) x = ziter cr wk se fl k (zstep cr wk se fl x) := by
  simp only [ziter]; rw [if_neg (by omega)]
end ZIter
theorem z_le0 {m : Nat} (hm : m < 2 ^ 31) (h : nI m ≤ 0) : m = 0 := by
  rcases Nat.eq_zero_or_pos m with e | e
  · exact e
  · exact absurd h (nI_nle e hm)
theorem z_nle0 {m : Nat} (h : ¬ nI m ≤ 0) : 0 < m := by
  rcases Nat.eq_zero_or_pos m with e | e
  · subst e; exact absurd (by rw [nI_0]; exact Int32.le_refl 0) h
  · exact e
theorem z_cellI {cA : ClassId} {n : Nat} {f g : Nat → Int32} (h : ∀ i, i < n → f i = g i) : vp_cell cA (n, .inl f) = vp_cell cA (n, .inl g) := by
  have e : (fun j : Fin n => Value.int (f j.val)) = fun j : Fin n => Value.int (g j.val) := funext fun j => by rw [h j.val j.isLt]
  show arrV cA n (fun j => .int (f j)) = arrV cA n (fun j => .int (g j))
  simp only [arrV]
  rw [e]
theorem z_fillP {D : va_G} {cl : List vw_C} {aa : Nat} {cA : ClassId} {n : Nat} {f g : Nat → Int32} {H : Heap} (h : ∀ i, i < n → f i = g i) (hP : va_P D cl [(aa, .inl (cA, n, .inl f))] H) : va_P D cl [(aa, .inl (cA, n, .inl g))] H := by
  intro k q hq
  match k, hq with
  | 0, hq =>
    cases hq
    show H[aa]? = some (vp_cell cA (n, .inl g))
    rw [← z_cellI h]
    exact hP 0 _ rfl
  | k + 1, hq => simp at hq
theorem z_fillD {A : Nat → Prop} {aa : Nat} {x y : va_E} (hD : va_D A [(aa, x)]) : va_D A [(aa, y)] := by
  refine ⟨fun i j p q hi hj _ => ?_, fun k q hk => ?_⟩
  · match i, j, hi, hj with
    | 0, 0, _, _ => rfl
    | 0, j + 1, _, hj => simp at hj
    | i + 1, _, hi, _ => simp at hi
  · match k, hk with
    | 0, hk => cases hk; exact hD.2 0 (aa, x) rfl
    | k + 1, hk => simp at hk
end
section
set_option maxHeartbeats 4000000 in
set_option maxRecDepth 100000 in
/--  -/
theorem k_Plan_size (l : Launch) (dC : Nat → ClassId) (dI : Nat → Nat → Nat) (cI cJ cZ : ClassId) (hp : Nat) (aw : Nat) (av : Nat) (az : Nat) (af : Nat) (n : Nat)  (sz : Nat) : zMi l zy_P_size zw_P_size ({ frames := 0, cells := 0, slots := 0, locals := 0 }) [.ref hp] (dC, dI) zcl [(cI, .int), (cJ, .long), (cZ, .boolean)] [(hp, .inr (0, [.int (nI n), .ref aw, .ref av, .ref az, .ref af]))] sz (fun (r : Int32) (u : va_W) => r = nI n ∧ u = [(hp, .inr (0, [.int (nI n), .ref aw, .ref av, .ref az, .ref af]))]) := by
  refine z_ofi (cc := zc_P_size) (maxL := 1) (ret := (some .int)) (by decide) rfl (Nat.le_of_ble_eq_true rfl) ?_
  intro p e s m below meth c A ls hx hb hr hml hown htz hlocks hin hA hP hK hD hS hl
  have hown : s.vm.findClass zR_P = some m.cls := hown
  have hl : lv_has ls 1 [(0, .ref hp)] := hl
  refine lv_aload_n hx hb zd_P_size_0 rfl (lv_at hl 0 rfl) ?_
  refine va_get (D := (dC, dI)) (ci := 0) (v := .int (nI n)) (C := zR_P) (T := zF_P) (N := 5) hx hb htz zi_P hown hK hP 0 rfl rfl 0 (by decide) (htz _ zq_36) (fun _ h9 => h9) rfl zd_P_size_1 ?_
  exact z_iret hx hb hr hlocks hP hK hD hS zd_P_size_4 (by decide) (by decide) ⟨rfl, rfl⟩
set_option maxHeartbeats 4000000 in
set_option maxRecDepth 100000 in
/--  -/
theorem k_Plan_has (l : Launch) (dC : Nat → ClassId) (dI : Nat → Nat → Nat) (cI cJ cZ : ClassId) (hp : Nat) (aw : Nat) (av : Nat) (az : Nat) (af : Nat) (n : Nat) (sh : Int32) (hn : n ≤ 16) (sz : Nat) : zMi l zy_P_has zw_P_has ({ frames := 0, cells := 0, slots := 0, locals := 0 }) [.ref hp, .int sh] (dC, dI) zcl [(cI, .int), (cJ, .long), (cZ, .boolean)] [(hp, .inr (0, [.int (nI n), .ref aw, .ref av, .ref az, .ref af]))] sz (fun (r : Int32) (u : va_W) => (∃ (j : Nat), r = nI 1 ∧ u = [(hp, .inr (0, [.int (nI n), .ref aw, .ref av, .ref az, .ref af]))] ∧ j < n ∧ sh = nI j) ∨ (r = nI 0 ∧ u = [(hp, .inr (0, [.int (nI n), .ref aw, .ref av, .ref az, .ref af]))] ∧ (∀ j, j < n → sh ≠ nI j))) := by
  refine z_ofi (cc := zc_P_has) (maxL := 2) (ret := (some .boolean)) (by decide) rfl (Nat.le_of_ble_eq_true rfl) ?_
  intro p e s m below meth c A ls hx hb hr hml hown htz hlocks hin hA hP hK hD hS hl
  have hown : s.vm.findClass zR_P = some m.cls := hown
  have hl : lv_has ls 2 [(0, .ref hp), (1, .int sh)] := hl
  refine lv_iload_n hx hb zd_P_has_0 rfl (lv_at hl 1 rfl) ?_
  refine lv_if_lt (tgt := 16) hx hb zd_P_has_1 (by decide) (fun c1_ => ?_) (fun c1_ => ?_)
  · have hno9 := z_neg (n := n) (by omega) c1_
    refine lv_iconst (v := (nI 0)) hx hb zd_P_has_16 (by decide) ?_
    exact z_zret hx hb hr hlocks hP hK hD hS zd_P_has_17 (by decide) (by decide) rfl (Or.inr ⟨rfl, rfl, hno9⟩)
  · have h0_ := c1_
    refine lv_iload_n hx hb zd_P_has_4 rfl (lv_at hl 1 rfl) ?_
    refine lv_aload_n hx hb zd_P_has_5 rfl (lv_at hl 0 rfl) ?_
    refine va_get (D := (dC, dI)) (ci := 0) (v := .int (nI n)) (C := zR_P) (T := zF_P) (N := 5) hx hb htz zi_P hown hK hP 0 rfl rfl 0 (by decide) (htz _ zq_36) (fun _ h9 => h9) rfl zd_P_has_6 ?_
    refine lv_icmp_ge (tgt := 16) hx hb zd_P_has_9 (by decide) (fun c2_ => ?_) (fun c2_ => ?_)
    · have hno9 := z_big (n := n) (by omega) c2_
      refine lv_iconst (v := (nI 0)) hx hb zd_P_has_16 (by decide) ?_
      exact z_zret hx hb hr hlocks hP hK hD hS zd_P_has_17 (by decide) (by decide) rfl (Or.inr ⟨rfl, rfl, hno9⟩)
    · obtain ⟨j9, hj9, ej9⟩ := z_has (n := n) (by omega) h0_ c2_
      refine lv_iconst (v := (nI 1)) hx hb zd_P_has_12 (by decide) ?_
      refine lv_goto (tgt := 17) hx hb zd_P_has_13 (by decide) ?_
      exact z_zret hx hb hr hlocks hP hK hD hS zd_P_has_17 (by decide) (by decide) rfl (Or.inl ⟨j9, rfl, rfl, hj9, ej9⟩)
set_option maxHeartbeats 4000000 in
set_option maxRecDepth 100000 in
/--  -/
theorem k_Plan_has_k (l : Launch) (dC : Nat → ClassId) (dI : Nat → Nat → Nat) (cI cJ cZ : ClassId) (hp : Nat) (aw : Nat) (av : Nat) (az : Nat) (af : Nat) (n : Nat) (j : Nat) (hn : n ≤ 16) (hj : j < n) (sz : Nat) : zMi l zy_P_has zw_P_has ({ frames := 0, cells := 0, slots := 0, locals := 0 }) [.ref hp, .int (nI j)] (dC, dI) zcl [(cI, .int), (cJ, .long), (cZ, .boolean)] [(hp, .inr (0, [.int (nI n), .ref aw, .ref av, .ref az, .ref af]))] sz (fun (r : Int32) (u : va_W) => r = nI 1 ∧ u = [(hp, .inr (0, [.int (nI n), .ref aw, .ref av, .ref az, .ref af]))]) := by
  refine z_ofi (cc := zc_P_has) (maxL := 2) (ret := (some .boolean)) (by decide) rfl (Nat.le_of_ble_eq_true rfl) ?_
  intro p e s m below meth c A ls hx hb hr hml hown htz hlocks hin hA hP hK hD hS hl
  have hown : s.vm.findClass zR_P = some m.cls := hown
  have hl : lv_has ls 2 [(0, .ref hp), (1, .int (nI j))] := hl
  refine lv_iload_n hx hb zd_P_has_0 rfl (lv_at hl 1 rfl) ?_
  refine lv_if_lt (tgt := 16) hx hb zd_P_has_1 (by decide) (fun c1_ => absurd c1_ (nI_pos (by omega))) (fun c1_ => ?_)
  refine lv_iload_n hx hb zd_P_has_4 rfl (lv_at hl 1 rfl) ?_
  refine lv_aload_n hx hb zd_P_has_5 rfl (lv_at hl 0 rfl) ?_
  refine va_get (D := (dC, dI)) (ci := 0) (v := .int (nI n)) (C := zR_P) (T := zF_P) (N := 5) hx hb htz zi_P hown hK hP 0 rfl rfl 0 (by decide) (htz _ zq_36) (fun _ h9 => h9) rfl zd_P_has_6 ?_
  refine lv_icmp_ge (tgt := 16) hx hb zd_P_has_9 (by decide) (fun c2_ => absurd c2_ (nI_ge hj (by omega))) (fun c2_ => ?_)
  refine lv_iconst (v := (nI 1)) hx hb zd_P_has_12 (by decide) ?_
  refine lv_goto (tgt := 17) hx hb zd_P_has_13 (by decide) ?_
  exact z_zret hx hb hr hlocks hP hK hD hS zd_P_has_17 (by decide) (by decide) rfl ⟨rfl, rfl⟩
set_option maxHeartbeats 4000000 in
set_option maxRecDepth 100000 in
/--  -/
theorem k_Plan_workOf_k (l : Launch) (dC : Nat → ClassId) (dI : Nat → Nat → Nat) (cI cJ cZ : ClassId) (hp : Nat) (aw : Nat) (av : Nat) (az : Nat) (af : Nat) (n : Nat) (wk : Nat → Int32) (j : Nat) (hn : n ≤ 16) (hj : j < n) (sz : Nat) : zMi l zy_P_workOf zw_P_workOf ({ frames := 1, cells := 0, slots := 0, locals := 21 }) [.ref hp, .int (nI j)] (dC, dI) zcl [(cI, .int), (cJ, .long), (cZ, .boolean)] [(hp, .inr (0, [.int (nI n), .ref aw, .ref av, .ref az, .ref af])), (aw, .inl (cI, 16, .inl wk))] sz (fun (r : Int32) (u : va_W) => r = wk j ∧ u = [(hp, .inr (0, [.int (nI n), .ref aw, .ref av, .ref az, .ref af])), (aw, .inl (cI, 16, .inl wk))]) := by
  refine z_ofi (cc := zc_P_workOf) (maxL := 2) (ret := (some .int)) (by decide) rfl (Nat.le_of_ble_eq_true rfl) ?_
  intro p e s m below meth c A ls hx hb hr hml hown htz hlocks hin hA hP hK hD hS hl
  have hown : s.vm.findClass zR_P = some m.cls := hown
  have hl : lv_has ls 2 [(0, .ref hp), (1, .int (nI j))] := hl
  refine lv_aload_n hx hb zd_P_workOf_0 rfl (lv_at hl 0 rfl) ?_
  refine lv_iload_n hx hb zd_P_workOf_1 rfl (lv_at hl 1 rfl) ?_
  refine z_Vi (As := [.int (nI j)]) (rest := []) (wc := [(hp, .inr (0, [.int (nI n), .ref aw, .ref av, .ref az, .ref af]))]) (wr := [(aw, .inl (cI, 16, .inl wk))]) ⟨hx, hb, hml, hown, htz⟩ hK hP hD hS hA (k_Plan_has_k l dC dI cI cJ cZ hp aw av az af n j (by first | assumption | omega) (by first | assumption | omega) s.heap.size) (zcwV 1 htz zq_147 zq_236 zq_145 zq_146 zq_2 (by decide +kernel) ⟨Nat.le_of_ble_eq_true rfl, Nat.le_of_ble_eq_true rfl⟩) 0 0 rfl rfl [0] [1] rfl rfl rfl (by decide) rfl hl.1 rfl (Nat.le_of_ble_eq_true rfl) zd_P_workOf_2 ⟨Nat.le_of_ble_eq_true rfl, Nat.le_of_ble_eq_true rfl⟩ (fun r u H locs hw hP hD hS => ?_)
  obtain ⟨rfl, rfl⟩ := hw
  have hP : va_P (dC, dI) zcl [(aw, .inl (cI, 16, .inl wk)), (hp, .inr (0, [.int (nI n), .ref aw, .ref av, .ref az, .ref af]))] H := hP
  have hD : va_D A [(aw, .inl (cI, 16, .inl wk)), (hp, .inr (0, [.int (nI n), .ref aw, .ref av, .ref az, .ref af]))] := hD
  refine lv_if_eq (tgt := 17) hx hb zd_P_workOf_5 (by decide) (fun c1_ => absurd c1_ (by decide)) (fun _ => ?_)
  refine lv_aload_n hx hb zd_P_workOf_8 rfl (lv_at hl 0 rfl) ?_
  refine va_get (D := (dC, dI)) (ci := 0) (v := .ref aw) (C := zR_P) (T := zF_P) (N := 5) hx hb htz zi_P hown hK hP 1 rfl rfl 1 (by decide) (htz _ zq_37) (fun _ h9 => h9) rfl zd_P_workOf_9 ?_
  refine lv_iload_n hx hb zd_P_workOf_12 rfl (lv_at hl 1 rfl) ?_
  refine z_iald hx hb hK hP 0 0 rfl rfl (j := j) (by omega) (by decide) zd_P_workOf_13 ?_
  refine lv_goto (tgt := 18) hx hb zd_P_workOf_14 (by decide) ?_
  have hP := hP.sub (ws' := [(hp, .inr (0, [.int (nI n), .ref aw, .ref av, .ref az, .ref af])), (aw, .inl (cI, 16, .inl wk))]) [1, 0] rfl
  have hD := hD.sub (ws' := [(hp, .inr (0, [.int (nI n), .ref aw, .ref av, .ref az, .ref af])), (aw, .inl (cI, 16, .inl wk))]) [1, 0] (by decide) rfl
  exact z_iret hx hb hr hlocks hP hK hD hS zd_P_workOf_18 (by decide) (by decide) ⟨rfl, rfl⟩
set_option maxHeartbeats 4000000 in
set_option maxRecDepth 100000 in
/--  -/
theorem k_Plan_faultsOf_k (l : Launch) (dC : Nat → ClassId) (dI : Nat → Nat → Nat) (cI cJ cZ : ClassId) (hp : Nat) (aw : Nat) (av : Nat) (az : Nat) (af : Nat) (n : Nat) (fl : Nat → Int32) (j : Nat) (hn : n ≤ 16) (hj : j < n) (sz : Nat) : zMi l zy_P_faultsOf zw_P_faultsOf ({ frames := 1, cells := 0, slots := 0, locals := 21 }) [.ref hp, .int (nI j)] (dC, dI) zcl [(cI, .int), (cJ, .long), (cZ, .boolean)] [(hp, .inr (0, [.int (nI n), .ref aw, .ref av, .ref az, .ref af])), (af, .inl (cI, 16, .inl fl))] sz (fun (r : Int32) (u : va_W) => r = fl j ∧ u = [(hp, .inr (0, [.int (nI n), .ref aw, .ref av, .ref az, .ref af])), (af, .inl (cI, 16, .inl fl))]) := by
  refine z_ofi (cc := zc_P_faultsOf) (maxL := 2) (ret := (some .int)) (by decide) rfl (Nat.le_of_ble_eq_true rfl) ?_
  intro p e s m below meth c A ls hx hb hr hml hown htz hlocks hin hA hP hK hD hS hl
  have hown : s.vm.findClass zR_P = some m.cls := hown
  have hl : lv_has ls 2 [(0, .ref hp), (1, .int (nI j))] := hl
  refine lv_aload_n hx hb zd_P_faultsOf_0 rfl (lv_at hl 0 rfl) ?_
  refine lv_iload_n hx hb zd_P_faultsOf_1 rfl (lv_at hl 1 rfl) ?_
  refine z_Vi (As := [.int (nI j)]) (rest := []) (wc := [(hp, .inr (0, [.int (nI n), .ref aw, .ref av, .ref az, .ref af]))]) (wr := [(af, .inl (cI, 16, .inl fl))]) ⟨hx, hb, hml, hown, htz⟩ hK hP hD hS hA (k_Plan_has_k l dC dI cI cJ cZ hp aw av az af n j (by first | assumption | omega) (by first | assumption | omega) s.heap.size) (zcwV 1 htz zq_147 zq_236 zq_145 zq_146 zq_2 (by decide +kernel) ⟨Nat.le_of_ble_eq_true rfl, Nat.le_of_ble_eq_true rfl⟩) 0 0 rfl rfl [0] [1] rfl rfl rfl (by decide) rfl hl.1 rfl (Nat.le_of_ble_eq_true rfl) zd_P_faultsOf_2 ⟨Nat.le_of_ble_eq_true rfl, Nat.le_of_ble_eq_true rfl⟩ (fun r u H locs hw hP hD hS => ?_)
  obtain ⟨rfl, rfl⟩ := hw
  have hP : va_P (dC, dI) zcl [(af, .inl (cI, 16, .inl fl)), (hp, .inr (0, [.int (nI n), .ref aw, .ref av, .ref az, .ref af]))] H := hP
  have hD : va_D A [(af, .inl (cI, 16, .inl fl)), (hp, .inr (0, [.int (nI n), .ref aw, .ref av, .ref az, .ref af]))] := hD
  refine lv_if_eq (tgt := 17) hx hb zd_P_faultsOf_5 (by decide) (fun c1_ => absurd c1_ (by decide)) (fun _ => ?_)
  refine lv_aload_n hx hb zd_P_faultsOf_8 rfl (lv_at hl 0 rfl) ?_
  refine va_get (D := (dC, dI)) (ci := 0) (v := .ref af) (C := zR_P) (T := zF_P) (N := 5) hx hb htz zi_P hown hK hP 1 rfl rfl 4 (by decide) (htz _ zq_40) (fun _ h9 => h9) rfl zd_P_faultsOf_9 ?_
  refine lv_iload_n hx hb zd_P_faultsOf_12 rfl (lv_at hl 1 rfl) ?_
  refine z_iald hx hb hK hP 0 0 rfl rfl (j := j) (by omega) (by decide) zd_P_faultsOf_13 ?_
  refine lv_goto (tgt := 18) hx hb zd_P_faultsOf_14 (by decide) ?_
  have hP := hP.sub (ws' := [(hp, .inr (0, [.int (nI n), .ref aw, .ref av, .ref az, .ref af])), (af, .inl (cI, 16, .inl fl))]) [1, 0] rfl
  have hD := hD.sub (ws' := [(hp, .inr (0, [.int (nI n), .ref aw, .ref av, .ref az, .ref af])), (af, .inl (cI, 16, .inl fl))]) [1, 0] (by decide) rfl
  exact z_iret hx hb hr hlocks hP hK hD hS zd_P_faultsOf_18 (by decide) (by decide) ⟨rfl, rfl⟩
set_option maxHeartbeats 4000000 in
set_option maxRecDepth 100000 in
/--  -/
theorem k_Plan_isSettling_k (l : Launch) (dC : Nat → ClassId) (dI : Nat → Nat → Nat) (cI cJ cZ : ClassId) (hp : Nat) (aw : Nat) (av : Nat) (az : Nat) (af : Nat) (n : Nat) (se : Nat → Int32) (j : Nat) (hn : n ≤ 16) (hj : j < n) (sz : Nat) : zMi l zy_P_isSettling zw_P_isSettling ({ frames := 1, cells := 0, slots := 0, locals := 21 }) [.ref hp, .int (nI j)] (dC, dI) zcl [(cI, .int), (cJ, .long), (cZ, .boolean)] [(hp, .inr (0, [.int (nI n), .ref aw, .ref av, .ref az, .ref af])), (az, .inl (cZ, 16, .inl se))] sz (fun (r : Int32) (u : va_W) => (r = nI 1 ∧ u = [(hp, .inr (0, [.int (nI n), .ref aw, .ref av, .ref az, .ref af])), (az, .inl (cZ, 16, .inl se))] ∧ se j ≠ 0) ∨ (r = nI 0 ∧ u = [(hp, .inr (0, [.int (nI n), .ref aw, .ref av, .ref az, .ref af])), (az, .inl (cZ, 16, .inl se))] ∧ se j = 0)) := by
  refine z_ofi (cc := zc_P_isSettling) (maxL := 2) (ret := (some .boolean)) (by decide) rfl (Nat.le_of_ble_eq_true rfl) ?_
  intro p e s m below meth c A ls hx hb hr hml hown htz hlocks hin hA hP hK hD hS hl
  have hown : s.vm.findClass zR_P = some m.cls := hown
  have hl : lv_has ls 2 [(0, .ref hp), (1, .int (nI j))] := hl
  refine lv_aload_n hx hb zd_P_isSettling_0 rfl (lv_at hl 0 rfl) ?_
  refine lv_iload_n hx hb zd_P_isSettling_1 rfl (lv_at hl 1 rfl) ?_
  refine z_Vi (As := [.int (nI j)]) (rest := []) (wc := [(hp, .inr (0, [.int (nI n), .ref aw, .ref av, .ref az, .ref af]))]) (wr := [(az, .inl (cZ, 16, .inl se))]) ⟨hx, hb, hml, hown, htz⟩ hK hP hD hS hA (k_Plan_has_k l dC dI cI cJ cZ hp aw av az af n j (by first | assumption | omega) (by first | assumption | omega) s.heap.size) (zcwV 1 htz zq_147 zq_236 zq_145 zq_146 zq_2 (by decide +kernel) ⟨Nat.le_of_ble_eq_true rfl, Nat.le_of_ble_eq_true rfl⟩) 0 0 rfl rfl [0] [1] rfl rfl rfl (by decide) rfl hl.1 rfl (Nat.le_of_ble_eq_true rfl) zd_P_isSettling_2 ⟨Nat.le_of_ble_eq_true rfl, Nat.le_of_ble_eq_true rfl⟩ (fun r u H locs hw hP hD hS => ?_)
  obtain ⟨rfl, rfl⟩ := hw
  have hP : va_P (dC, dI) zcl [(az, .inl (cZ, 16, .inl se)), (hp, .inr (0, [.int (nI n), .ref aw, .ref av, .ref az, .ref af]))] H := hP
  have hD : va_D A [(az, .inl (cZ, 16, .inl se)), (hp, .inr (0, [.int (nI n), .ref aw, .ref av, .ref az, .ref af]))] := hD
  refine lv_if_eq (tgt := 21) hx hb zd_P_isSettling_5 (by decide) (fun c1_ => absurd c1_ (by decide)) (fun _ => ?_)
  refine lv_aload_n hx hb zd_P_isSettling_8 rfl (lv_at hl 0 rfl) ?_
  refine va_get (D := (dC, dI)) (ci := 0) (v := .ref az) (C := zR_P) (T := zF_P) (N := 5) hx hb htz zi_P hown hK hP 1 rfl rfl 3 (by decide) (htz _ zq_39) (fun _ h9 => h9) rfl zd_P_isSettling_9 ?_
  refine lv_iload_n hx hb zd_P_isSettling_12 rfl (lv_at hl 1 rfl) ?_
  refine z_zald hx hb hK hP 0 2 rfl rfl (j := j) (by omega) (by decide) zd_P_isSettling_13 ?_
  refine lv_if_eq (tgt := 21) hx hb zd_P_isSettling_14 (by decide) (fun c2_ => ?_) (fun c2_ => ?_)
  · have hs9 := c2_
    refine lv_iconst (v := (nI 0)) hx hb zd_P_isSettling_21 (by decide) ?_
    have hP := hP.sub (ws' := [(hp, .inr (0, [.int (nI n), .ref aw, .ref av, .ref az, .ref af])), (az, .inl (cZ, 16, .inl se))]) [1, 0] rfl
    have hD := hD.sub (ws' := [(hp, .inr (0, [.int (nI n), .ref aw, .ref av, .ref az, .ref af])), (az, .inl (cZ, 16, .inl se))]) [1, 0] (by decide) rfl
    exact z_zret hx hb hr hlocks hP hK hD hS zd_P_isSettling_22 (by decide) (by decide) rfl (Or.inr ⟨rfl, rfl, hs9⟩)
  · have hs9 := c2_
    refine lv_iconst (v := (nI 1)) hx hb zd_P_isSettling_17 (by decide) ?_
    refine lv_goto (tgt := 22) hx hb zd_P_isSettling_18 (by decide) ?_
    have hP := hP.sub (ws' := [(hp, .inr (0, [.int (nI n), .ref aw, .ref av, .ref az, .ref af])), (az, .inl (cZ, 16, .inl se))]) [1, 0] rfl
    have hD := hD.sub (ws' := [(hp, .inr (0, [.int (nI n), .ref aw, .ref av, .ref az, .ref af])), (az, .inl (cZ, 16, .inl se))]) [1, 0] (by decide) rfl
    exact z_zret hx hb hr hlocks hP hK hD hS zd_P_isSettling_22 (by decide) (by decide) rfl (Or.inl ⟨rfl, rfl, hs9⟩)
set_option maxHeartbeats 4000000 in
set_option maxRecDepth 100000 in
/--  -/
theorem k_Plan_winner (l : Launch) (dC : Nat → ClassId) (dI : Nat → Nat → Nat) (cI cJ cZ : ClassId) (hp : Nat) (aw : Nat) (av : Nat) (az : Nat) (af : Nat) (n : Nat) (se : Nat → Int32) (hn : n ≤ 16) (sz : Nat) : zMi l zy_P_winner zw_P_winner ({ frames := 0, cells := 0, slots := 0, locals := 0 }) [.ref hp] (dC, dI) zcl [(cI, .int), (cJ, .long), (cZ, .boolean)] [(hp, .inr (0, [.int (nI n), .ref aw, .ref av, .ref az, .ref af])), (az, .inl (cZ, 16, .inl se))] sz (fun (r : Int32) (u : va_W) => (r = nI (zwin se n) ∧ u = [(hp, .inr (0, [.int (nI n), .ref aw, .ref av, .ref az, .ref af])), (az, .inl (cZ, 16, .inl se))] ∧ zwin se n < n) ∨ (r = (-1) ∧ u = [(hp, .inr (0, [.int (nI n), .ref aw, .ref av, .ref az, .ref af])), (az, .inl (cZ, 16, .inl se))] ∧ zwin se n = n)) := by
  refine z_ofi (cc := zc_P_winner) (maxL := 2) (ret := (some .int)) (by decide) rfl (Nat.le_of_ble_eq_true rfl) ?_
  intro p e s m below meth c A ls hx hb hr hml hown htz hlocks hin hA hP hK hD hS hl
  have hown : s.vm.findClass zR_P = some m.cls := hown
  have hl : lv_has ls 2 [(0, .ref hp)] := hl
  refine lv_iconst (v := (nI 0)) hx hb zd_P_winner_0 (by decide) ?_
  refine lv_istore_n (lv' := [(1, .int (nI 0)), (0, .ref hp)]) hx hb zd_P_winner_1 rfl hl (by decide) rfl (fun ls hl => ?_)
  have lp2 : ∀ (fuel : Nat) (k : Nat) (H : Heap) (locs : List Loc) (ls : Array Slot), (k ≤ n) → (∀ q, q < k → se q = 0) → n - k < fuel → va_P (dC, dI) zcl [(hp, .inr (0, [.int (nI n), .ref aw, .ref av, .ref az, .ref af])), (az, .inl (cZ, 16, .inl se))] H → va_D A [(hp, .inr (0, [.int (nI n), .ref aw, .ref av, .ref az, .ref af])), (az, .inl (cZ, 16, .inl se))] → va_S A s.heap H locs → lv_has ls 2 [(1, .int (nI k)), (0, .ref hp)] → W p l e ({ frames := 0, cells := 0, slots := 0, locals := 0 } : Room) s m [.ref hp].toArray below meth c H locs 0 0 (MQ below (va_Qi (fun (r : Int32) (u : va_W) => (r = nI (zwin se n) ∧ u = [(hp, .inr (0, [.int (nI n), .ref aw, .ref av, .ref az, .ref af])), (az, .inl (cZ, 16, .inl se))] ∧ zwin se n < n) ∨ (r = (-1) ∧ u = [(hp, .inr (0, [.int (nI n), .ref aw, .ref av, .ref az, .ref af])), (az, .inl (cZ, 16, .inl se))] ∧ zwin se n = n)) (zAt (dC, dI) zcl [(cI, .int), (cJ, .long), (cZ, .boolean)] A) A) [.ref hp].toArray s 0 0 A) (F0 m 2 ls []) := by
    intro fuel
    induction fuel with
    | zero => intro k H locs ls hk hz hf; exact absurd hf (Nat.not_lt_zero _)
    | succ fuel ih =>
      intro k H locs ls hk hz hf hP hD hS hl
      refine lv_iload_n hx hb zd_P_winner_2 rfl (lv_at hl 0 rfl) ?_
      refine lv_aload_n hx hb zd_P_winner_3 rfl (lv_at hl 1 rfl) ?_
      refine va_get (D := (dC, dI)) (ci := 0) (v := .int (nI n)) (C := zR_P) (T := zF_P) (N := 5) hx hb htz zi_P hown hK hP 0 rfl rfl 0 (by decide) (htz _ zq_36) (fun _ h9 => h9) rfl zd_P_winner_4 ?_
      refine lv_icmp_ge (tgt := 27) hx hb zd_P_winner_7 (by decide) (fun c1_ => ?_) (fun c1_ => ?_)
      · have hk2 : k = n := Nat.le_antisymm hk (Nat.le_of_not_lt (fun h => nI_ge h (by omega) c1_))
        subst hk2
        have hw9 := zwin_no hz
        refine lv_iconst (v := (-1)) hx hb zd_P_winner_27 (by decide) ?_
        exact z_iret hx hb hr hlocks hP hK hD hS zd_P_winner_28 (by decide) (by decide) (Or.inr ⟨rfl, rfl, hw9⟩)
      · have hk2 : k < n := Nat.lt_of_not_le (fun h => c1_ (nI_le h (by omega)))
        refine lv_aload_n hx hb zd_P_winner_10 rfl (lv_at hl 1 rfl) ?_
        refine va_get (D := (dC, dI)) (ci := 0) (v := .ref az) (C := zR_P) (T := zF_P) (N := 5) hx hb htz zi_P hown hK hP 0 rfl rfl 3 (by decide) (htz _ zq_39) (fun _ h9 => h9) rfl zd_P_winner_11 ?_
        refine lv_iload_n hx hb zd_P_winner_14 rfl (lv_at hl 0 rfl) ?_
        refine z_zald hx hb hK hP 1 2 rfl rfl (j := k) (by omega) (by decide) zd_P_winner_15 ?_
        refine lv_if_eq (tgt := 21) hx hb zd_P_winner_16 (by decide) (fun c2_ => ?_) (fun c2_ => ?_)
        · have hz2 : ∀ q, q < k + 1 → se q = 0 := fun q hq => (Nat.lt_or_eq_of_le (Nat.le_of_lt_succ hq)).elim (hz q) (fun e => e ▸ c2_)
          refine lv_iinc (v := (nI (k + 1))) (lv' := [(1, .int (nI (k + 1))), (0, .ref hp)]) hx hb zd_P_winner_21 hl (k := 0) rfl (nI_1 k) (by decide) rfl (fun ls hl => ?_)
          refine lv_goto (tgt := 2) hx hb zd_P_winner_24 (by decide) ?_
          exact ih (k + 1) _ _ _ (by omega) hz2 (by omega) hP hD hS hl
        · have hw9 := zwin_at hk2 hz c2_
          refine lv_iload_n hx hb zd_P_winner_19 rfl (lv_at hl 0 rfl) ?_
          exact z_iret hx hb hr hlocks hP hK hD hS zd_P_winner_20 (by decide) (by decide) (Or.inl ⟨by rw [hw9], rfl, by rw [hw9]; exact hk2⟩)
  exact lp2 _ 0 _ _ _ (Nat.zero_le _) (fun q hq => absurd hq (Nat.not_lt_zero _)) (Nat.lt_succ_self _) hP hD hS hl
end
section
set_option maxHeartbeats 4000000 in
set_option maxRecDepth 100000 in
/--  -/
theorem k_Race_hasWorker (l : Launch) (dC : Nat → ClassId) (dI : Nat → Nat → Nat) (cI cJ cZ : ClassId) (ra : Nat) (hp : Nat) (ah : Nat) (am : Nat) (at_ : Nat) (asp : Nat) (afa : Nat) (ado : Nat) (adt : Nat) (aor : Nat) (cr : Nat) (ho : Nat) (nx : Nat) (ba : Nat) (pl : Nat) (tk : Nat) (rr : Int64) (sh : Int32) (hc : cr ≤ 16) (sz : Nat) : zMi l zy_Q_hasWorker zw_Q_hasWorker ({ frames := 0, cells := 0, slots := 0, locals := 0 }) [.ref ra, .int sh] (dC, dI) zcl [(cI, .int), (cJ, .long), (cZ, .boolean)] [(ra, .inr (1, [.ref hp, .ref ah, .ref am, .ref at_, .ref asp, .ref afa, .ref ado, .ref adt, .ref aor, .int (nI cr), .int (nI ho), .int (nI nx), .int (nI ba), .int (nI pl), .int (nI tk), .long rr]))] sz (fun (r : Int32) (u : va_W) => (∃ (j : Nat), r = nI 1 ∧ u = [(ra, .inr (1, [.ref hp, .ref ah, .ref am, .ref at_, .ref asp, .ref afa, .ref ado, .ref adt, .ref aor, .int (nI cr), .int (nI ho), .int (nI nx), .int (nI ba), .int (nI pl), .int (nI tk), .long rr]))] ∧ j < cr ∧ sh = nI j) ∨ (r = nI 0 ∧ u = [(ra, .inr (1, [.ref hp, .ref ah, .ref am, .ref at_, .ref asp, .ref afa, .ref ado, .ref adt, .ref aor, .int (nI cr), .int (nI ho), .int (nI nx), .int (nI ba), .int (nI pl), .int (nI tk), .long rr]))] ∧ (∀ j, j < cr → sh ≠ nI j))) := by
  refine z_ofi (cc := zc_Q_hasWorker) (maxL := 2) (ret := (some .boolean)) (by decide) rfl (Nat.le_of_ble_eq_true rfl) ?_
  intro p e s m below meth c A ls hx hb hr hml hown htz hlocks hin hA hP hK hD hS hl
  have hown : s.vm.findClass zR_Q = some m.cls := hown
  have hl : lv_has ls 2 [(0, .ref ra), (1, .int sh)] := hl
  refine lv_iload_n hx hb zd_Q_hasWorker_0 rfl (lv_at hl 1 rfl) ?_
  refine lv_if_lt (tgt := 16) hx hb zd_Q_hasWorker_1 (by decide) (fun c1_ => ?_) (fun c1_ => ?_)
  · have hno9 := z_neg (n := cr) (by omega) c1_
    refine lv_iconst (v := (nI 0)) hx hb zd_Q_hasWorker_16 (by decide) ?_
    exact z_zret hx hb hr hlocks hP hK hD hS zd_Q_hasWorker_17 (by decide) (by decide) rfl (Or.inr ⟨rfl, rfl, hno9⟩)
  · have h0_ := c1_
    refine lv_iload_n hx hb zd_Q_hasWorker_4 rfl (lv_at hl 1 rfl) ?_
    refine lv_aload_n hx hb zd_Q_hasWorker_5 rfl (lv_at hl 0 rfl) ?_
    refine va_get (D := (dC, dI)) (ci := 1) (v := .int (nI cr)) (C := zR_Q) (T := zF_Q) (N := 16) hx hb htz zi_Q hown hK hP 0 rfl rfl 9 (by decide) (htz _ zq_70) (fun _ h9 => h9) rfl zd_Q_hasWorker_6 ?_
    refine lv_icmp_ge (tgt := 16) hx hb zd_Q_hasWorker_9 (by decide) (fun c2_ => ?_) (fun c2_ => ?_)
    · have hno9 := z_big (n := cr) (by omega) c2_
      refine lv_iconst (v := (nI 0)) hx hb zd_Q_hasWorker_16 (by decide) ?_
      exact z_zret hx hb hr hlocks hP hK hD hS zd_Q_hasWorker_17 (by decide) (by decide) rfl (Or.inr ⟨rfl, rfl, hno9⟩)
    · obtain ⟨j9, hj9, ej9⟩ := z_has (n := cr) (by omega) h0_ c2_
      refine lv_iconst (v := (nI 1)) hx hb zd_Q_hasWorker_12 (by decide) ?_
      refine lv_goto (tgt := 17) hx hb zd_Q_hasWorker_13 (by decide) ?_
      exact z_zret hx hb hr hlocks hP hK hD hS zd_Q_hasWorker_17 (by decide) (by decide) rfl (Or.inl ⟨j9, rfl, rfl, hj9, ej9⟩)
set_option maxHeartbeats 4000000 in
set_option maxRecDepth 100000 in
/--  -/
theorem k_Race_hasWorker_k (l : Launch) (dC : Nat → ClassId) (dI : Nat → Nat → Nat) (cI cJ cZ : ClassId) (ra : Nat) (hp : Nat) (ah : Nat) (am : Nat) (at_ : Nat) (asp : Nat) (afa : Nat) (ado : Nat) (adt : Nat) (aor : Nat) (cr : Nat) (ho : Nat) (nx : Nat) (ba : Nat) (pl : Nat) (tk : Nat) (rr : Int64) (j : Nat) (hc : cr ≤ 16) (hj : j < cr) (sz : Nat) : zMi l zy_Q_hasWorker zw_Q_hasWorker ({ frames := 0, cells := 0, slots := 0, locals := 0 }) [.ref ra, .int (nI j)] (dC, dI) zcl [(cI, .int), (cJ, .long), (cZ, .boolean)] [(ra, .inr (1, [.ref hp, .ref ah, .ref am, .ref at_, .ref asp, .ref afa, .ref ado, .ref adt, .ref aor, .int (nI cr), .int (nI ho), .int (nI nx), .int (nI ba), .int (nI pl), .int (nI tk), .long rr]))] sz (fun (r : Int32) (u : va_W) => r = nI 1 ∧ u = [(ra, .inr (1, [.ref hp, .ref ah, .ref am, .ref at_, .ref asp, .ref afa, .ref ado, .ref adt, .ref aor, .int (nI cr), .int (nI ho), .int (nI nx), .int (nI ba), .int (nI pl), .int (nI tk), .long rr]))]) := by
  refine z_ofi (cc := zc_Q_hasWorker) (maxL := 2) (ret := (some .boolean)) (by decide) rfl (Nat.le_of_ble_eq_true rfl) ?_
  intro p e s m below meth c A ls hx hb hr hml hown htz hlocks hin hA hP hK hD hS hl
  have hown : s.vm.findClass zR_Q = some m.cls := hown
  have hl : lv_has ls 2 [(0, .ref ra), (1, .int (nI j))] := hl
  refine lv_iload_n hx hb zd_Q_hasWorker_0 rfl (lv_at hl 1 rfl) ?_
  refine lv_if_lt (tgt := 16) hx hb zd_Q_hasWorker_1 (by decide) (fun c1_ => absurd c1_ (nI_pos (by omega))) (fun c1_ => ?_)
  refine lv_iload_n hx hb zd_Q_hasWorker_4 rfl (lv_at hl 1 rfl) ?_
  refine lv_aload_n hx hb zd_Q_hasWorker_5 rfl (lv_at hl 0 rfl) ?_
  refine va_get (D := (dC, dI)) (ci := 1) (v := .int (nI cr)) (C := zR_Q) (T := zF_Q) (N := 16) hx hb htz zi_Q hown hK hP 0 rfl rfl 9 (by decide) (htz _ zq_70) (fun _ h9 => h9) rfl zd_Q_hasWorker_6 ?_
  refine lv_icmp_ge (tgt := 16) hx hb zd_Q_hasWorker_9 (by decide) (fun c2_ => absurd c2_ (nI_ge hj (by omega))) (fun c2_ => ?_)
  refine lv_iconst (v := (nI 1)) hx hb zd_Q_hasWorker_12 (by decide) ?_
  refine lv_goto (tgt := 17) hx hb zd_Q_hasWorker_13 (by decide) ?_
  exact z_zret hx hb hr hlocks hP hK hD hS zd_Q_hasWorker_17 (by decide) (by decide) rfl ⟨rfl, rfl⟩
set_option maxHeartbeats 4000000 in
set_option maxRecDepth 100000 in
/--  -/
theorem k_Race_hasPlace (l : Launch) (dC : Nat → ClassId) (dI : Nat → Nat → Nat) (cI cJ cZ : ClassId) (ra : Nat) (hp : Nat) (ah : Nat) (am : Nat) (at_ : Nat) (asp : Nat) (afa : Nat) (ado : Nat) (adt : Nat) (aor : Nat) (cr : Nat) (ho : Nat) (nx : Nat) (ba : Nat) (pl : Nat) (tk : Nat) (rr : Int64) (sh : Int32) (hpl : pl ≤ 16) (sz : Nat) : zMi l zy_Q_hasPlace zw_Q_hasPlace ({ frames := 0, cells := 0, slots := 0, locals := 0 }) [.ref ra, .int sh] (dC, dI) zcl [(cI, .int), (cJ, .long), (cZ, .boolean)] [(ra, .inr (1, [.ref hp, .ref ah, .ref am, .ref at_, .ref asp, .ref afa, .ref ado, .ref adt, .ref aor, .int (nI cr), .int (nI ho), .int (nI nx), .int (nI ba), .int (nI pl), .int (nI tk), .long rr]))] sz (fun (r : Int32) (u : va_W) => (∃ (j : Nat), r = nI 1 ∧ u = [(ra, .inr (1, [.ref hp, .ref ah, .ref am, .ref at_, .ref asp, .ref afa, .ref ado, .ref adt, .ref aor, .int (nI cr), .int (nI ho), .int (nI nx), .int (nI ba), .int (nI pl), .int (nI tk), .long rr]))] ∧ j < pl ∧ sh = nI j) ∨ (r = nI 0 ∧ u = [(ra, .inr (1, [.ref hp, .ref ah, .ref am, .ref at_, .ref asp, .ref afa, .ref ado, .ref adt, .ref aor, .int (nI cr), .int (nI ho), .int (nI nx), .int (nI ba), .int (nI pl), .int (nI tk), .long rr]))] ∧ (∀ j, j < pl → sh ≠ nI j))) := by
  refine z_ofi (cc := zc_Q_hasPlace) (maxL := 2) (ret := (some .boolean)) (by decide) rfl (Nat.le_of_ble_eq_true rfl) ?_
  intro p e s m below meth c A ls hx hb hr hml hown htz hlocks hin hA hP hK hD hS hl
  have hown : s.vm.findClass zR_Q = some m.cls := hown
  have hl : lv_has ls 2 [(0, .ref ra), (1, .int sh)] := hl
  refine lv_iload_n hx hb zd_Q_hasPlace_0 rfl (lv_at hl 1 rfl) ?_
  refine lv_if_lt (tgt := 16) hx hb zd_Q_hasPlace_1 (by decide) (fun c1_ => ?_) (fun c1_ => ?_)
  · have hno9 := z_neg (n := pl) (by omega) c1_
    refine lv_iconst (v := (nI 0)) hx hb zd_Q_hasPlace_16 (by decide) ?_
    exact z_zret hx hb hr hlocks hP hK hD hS zd_Q_hasPlace_17 (by decide) (by decide) rfl (Or.inr ⟨rfl, rfl, hno9⟩)
  · have h0_ := c1_
    refine lv_iload_n hx hb zd_Q_hasPlace_4 rfl (lv_at hl 1 rfl) ?_
    refine lv_aload_n hx hb zd_Q_hasPlace_5 rfl (lv_at hl 0 rfl) ?_
    refine va_get (D := (dC, dI)) (ci := 1) (v := .int (nI pl)) (C := zR_Q) (T := zF_Q) (N := 16) hx hb htz zi_Q hown hK hP 0 rfl rfl 13 (by decide) (htz _ zq_74) (fun _ h9 => h9) rfl zd_Q_hasPlace_6 ?_
    refine lv_icmp_ge (tgt := 16) hx hb zd_Q_hasPlace_9 (by decide) (fun c2_ => ?_) (fun c2_ => ?_)
    · have hno9 := z_big (n := pl) (by omega) c2_
      refine lv_iconst (v := (nI 0)) hx hb zd_Q_hasPlace_16 (by decide) ?_
      exact z_zret hx hb hr hlocks hP hK hD hS zd_Q_hasPlace_17 (by decide) (by decide) rfl (Or.inr ⟨rfl, rfl, hno9⟩)
    · obtain ⟨j9, hj9, ej9⟩ := z_has (n := pl) (by omega) h0_ c2_
      refine lv_iconst (v := (nI 1)) hx hb zd_Q_hasPlace_12 (by decide) ?_
      refine lv_goto (tgt := 17) hx hb zd_Q_hasPlace_13 (by decide) ?_
      exact z_zret hx hb hr hlocks hP hK hD hS zd_Q_hasPlace_17 (by decide) (by decide) rfl (Or.inl ⟨j9, rfl, rfl, hj9, ej9⟩)
set_option maxHeartbeats 4000000 in
set_option maxRecDepth 100000 in
/--  -/
theorem k_Race_hasPlace_k (l : Launch) (dC : Nat → ClassId) (dI : Nat → Nat → Nat) (cI cJ cZ : ClassId) (ra : Nat) (hp : Nat) (ah : Nat) (am : Nat) (at_ : Nat) (asp : Nat) (afa : Nat) (ado : Nat) (adt : Nat) (aor : Nat) (cr : Nat) (ho : Nat) (nx : Nat) (ba : Nat) (pl : Nat) (tk : Nat) (rr : Int64) (j : Nat) (hpl : pl ≤ 16) (hj : j < pl) (sz : Nat) : zMi l zy_Q_hasPlace zw_Q_hasPlace ({ frames := 0, cells := 0, slots := 0, locals := 0 }) [.ref ra, .int (nI j)] (dC, dI) zcl [(cI, .int), (cJ, .long), (cZ, .boolean)] [(ra, .inr (1, [.ref hp, .ref ah, .ref am, .ref at_, .ref asp, .ref afa, .ref ado, .ref adt, .ref aor, .int (nI cr), .int (nI ho), .int (nI nx), .int (nI ba), .int (nI pl), .int (nI tk), .long rr]))] sz (fun (r : Int32) (u : va_W) => r = nI 1 ∧ u = [(ra, .inr (1, [.ref hp, .ref ah, .ref am, .ref at_, .ref asp, .ref afa, .ref ado, .ref adt, .ref aor, .int (nI cr), .int (nI ho), .int (nI nx), .int (nI ba), .int (nI pl), .int (nI tk), .long rr]))]) := by
  refine z_ofi (cc := zc_Q_hasPlace) (maxL := 2) (ret := (some .boolean)) (by decide) rfl (Nat.le_of_ble_eq_true rfl) ?_
  intro p e s m below meth c A ls hx hb hr hml hown htz hlocks hin hA hP hK hD hS hl
  have hown : s.vm.findClass zR_Q = some m.cls := hown
  have hl : lv_has ls 2 [(0, .ref ra), (1, .int (nI j))] := hl
  refine lv_iload_n hx hb zd_Q_hasPlace_0 rfl (lv_at hl 1 rfl) ?_
  refine lv_if_lt (tgt := 16) hx hb zd_Q_hasPlace_1 (by decide) (fun c1_ => absurd c1_ (nI_pos (by omega))) (fun c1_ => ?_)
  refine lv_iload_n hx hb zd_Q_hasPlace_4 rfl (lv_at hl 1 rfl) ?_
  refine lv_aload_n hx hb zd_Q_hasPlace_5 rfl (lv_at hl 0 rfl) ?_
  refine va_get (D := (dC, dI)) (ci := 1) (v := .int (nI pl)) (C := zR_Q) (T := zF_Q) (N := 16) hx hb htz zi_Q hown hK hP 0 rfl rfl 13 (by decide) (htz _ zq_74) (fun _ h9 => h9) rfl zd_Q_hasPlace_6 ?_
  refine lv_icmp_ge (tgt := 16) hx hb zd_Q_hasPlace_9 (by decide) (fun c2_ => absurd c2_ (nI_ge hj (by omega))) (fun c2_ => ?_)
  refine lv_iconst (v := (nI 1)) hx hb zd_Q_hasPlace_12 (by decide) ?_
  refine lv_goto (tgt := 17) hx hb zd_Q_hasPlace_13 (by decide) ?_
  exact z_zret hx hb hr hlocks hP hK hD hS zd_Q_hasPlace_17 (by decide) (by decide) rfl ⟨rfl, rfl⟩
set_option maxHeartbeats 4000000 in
set_option maxRecDepth 100000 in
/--  -/
theorem k_Race_someShareWaits (l : Launch) (dC : Nat → ClassId) (dI : Nat → Nat → Nat) (cI cJ cZ : ClassId) (ra : Nat) (hp : Nat) (ah : Nat) (am : Nat) (at_ : Nat) (asp : Nat) (afa : Nat) (ado : Nat) (adt : Nat) (aor : Nat) (cr : Nat) (ho : Nat) (nx : Nat) (ba : Nat) (pl : Nat) (tk : Nat) (rr : Int64) (hnx : nx ≤ 16) (hba : ba ≤ 16) (sz : Nat) : zMi l zy_Q_someShareWaits zw_Q_someShareWaits ({ frames := 0, cells := 0, slots := 0, locals := 0 }) [.ref ra] (dC, dI) zcl [(cI, .int), (cJ, .long), (cZ, .boolean)] [(ra, .inr (1, [.ref hp, .ref ah, .ref am, .ref at_, .ref asp, .ref afa, .ref ado, .ref adt, .ref aor, .int (nI cr), .int (nI ho), .int (nI nx), .int (nI ba), .int (nI pl), .int (nI tk), .long rr]))] sz (fun (r : Int32) (u : va_W) => (r = nI 1 ∧ u = [(ra, .inr (1, [.ref hp, .ref ah, .ref am, .ref at_, .ref asp, .ref afa, .ref ado, .ref adt, .ref aor, .int (nI cr), .int (nI ho), .int (nI nx), .int (nI ba), .int (nI pl), .int (nI tk), .long rr]))] ∧ nx < ba) ∨ (r = nI 0 ∧ u = [(ra, .inr (1, [.ref hp, .ref ah, .ref am, .ref at_, .ref asp, .ref afa, .ref ado, .ref adt, .ref aor, .int (nI cr), .int (nI ho), .int (nI nx), .int (nI ba), .int (nI pl), .int (nI tk), .long rr]))] ∧ ba ≤ nx)) := by
  refine z_ofi (cc := zc_Q_someShareWaits) (maxL := 1) (ret := (some .boolean)) (by decide) rfl (Nat.le_of_ble_eq_true rfl) ?_
  intro p e s m below meth c A ls hx hb hr hml hown htz hlocks hin hA hP hK hD hS hl
  have hown : s.vm.findClass zR_Q = some m.cls := hown
  have hl : lv_has ls 1 [(0, .ref ra)] := hl
  refine lv_aload_n hx hb zd_Q_someShareWaits_0 rfl (lv_at hl 0 rfl) ?_
  refine va_get (D := (dC, dI)) (ci := 1) (v := .int (nI nx)) (C := zR_Q) (T := zF_Q) (N := 16) hx hb htz zi_Q hown hK hP 0 rfl rfl 11 (by decide) (htz _ zq_72) (fun _ h9 => h9) rfl zd_Q_someShareWaits_1 ?_
  refine lv_aload_n hx hb zd_Q_someShareWaits_4 rfl (lv_at hl 0 rfl) ?_
  refine va_get (D := (dC, dI)) (ci := 1) (v := .int (nI ba)) (C := zR_Q) (T := zF_Q) (N := 16) hx hb htz zi_Q hown hK hP 0 rfl rfl 12 (by decide) (htz _ zq_73) (fun _ h9 => h9) rfl zd_Q_someShareWaits_5 ?_
  refine lv_icmp_ge (tgt := 15) hx hb zd_Q_someShareWaits_8 (by decide) (fun c1_ => ?_) (fun c1_ => ?_)
  · have hw9 : ba ≤ nx := Nat.le_of_not_lt (fun h => nI_ge h (by omega) c1_)
    refine lv_iconst (v := (nI 0)) hx hb zd_Q_someShareWaits_15 (by decide) ?_
    exact z_zret hx hb hr hlocks hP hK hD hS zd_Q_someShareWaits_16 (by decide) (by decide) rfl (Or.inr ⟨rfl, rfl, hw9⟩)
  · have hw9 : nx < ba := Nat.lt_of_not_le (fun h => c1_ (nI_le h (by omega)))
    refine lv_iconst (v := (nI 1)) hx hb zd_Q_someShareWaits_11 (by decide) ?_
    refine lv_goto (tgt := 16) hx hb zd_Q_someShareWaits_12 (by decide) ?_
    exact z_zret hx hb hr hlocks hP hK hD hS zd_Q_someShareWaits_16 (by decide) (by decide) rfl (Or.inl ⟨rfl, rfl, hw9⟩)
set_option maxHeartbeats 4000000 in
set_option maxRecDepth 100000 in
/--  -/
theorem k_Race_movers (l : Launch) (dC : Nat → ClassId) (dI : Nat → Nat → Nat) (cI cJ cZ : ClassId) (ra : Nat) (hp : Nat) (ah : Nat) (am : Nat) (at_ : Nat) (asp : Nat) (afa : Nat) (ado : Nat) (adt : Nat) (aor : Nat) (cr : Nat) (ho : Nat) (nx : Nat) (ba : Nat) (pl : Nat) (tk : Nat) (rr : Int64) (hnx : nx ≤ 16) (hba : ba ≤ 16) (sz : Nat) : zMi l zy_Q_movers zw_Q_movers ({ frames := 1, cells := 0, slots := 0, locals := 20 }) [.ref ra] (dC, dI) zcl [(cI, .int), (cJ, .long), (cZ, .boolean)] [(ra, .inr (1, [.ref hp, .ref ah, .ref am, .ref at_, .ref asp, .ref afa, .ref ado, .ref adt, .ref aor, .int (nI cr), .int (nI ho), .int (nI nx), .int (nI ba), .int (nI pl), .int (nI tk), .long rr]))] sz (fun (r : Int32) (u : va_W) => r = nI (zmvs cr ho nx ba) ∧ u = [(ra, .inr (1, [.ref hp, .ref ah, .ref am, .ref at_, .ref asp, .ref afa, .ref ado, .ref adt, .ref aor, .int (nI cr), .int (nI ho), .int (nI nx), .int (nI ba), .int (nI pl), .int (nI tk), .long rr]))]) := by
  refine z_ofi (cc := zc_Q_movers) (maxL := 1) (ret := (some .int)) (by decide) rfl (Nat.le_of_ble_eq_true rfl) ?_
  intro p e s m below meth c A ls hx hb hr hml hown htz hlocks hin hA hP hK hD hS hl
  have hown : s.vm.findClass zR_Q = some m.cls := hown
  have hl : lv_has ls 1 [(0, .ref ra)] := hl
  refine lv_aload_n hx hb zd_Q_movers_0 rfl (lv_at hl 0 rfl) ?_
  refine z_Vi (As := []) (rest := []) (wc := [(ra, .inr (1, [.ref hp, .ref ah, .ref am, .ref at_, .ref asp, .ref afa, .ref ado, .ref adt, .ref aor, .int (nI cr), .int (nI ho), .int (nI nx), .int (nI ba), .int (nI pl), .int (nI tk), .long rr]))]) (wr := []) ⟨hx, hb, hml, hown, htz⟩ hK hP hD hS hA (k_Race_someShareWaits l dC dI cI cJ cZ ra hp ah am at_ asp afa ado adt aor cr ho nx ba pl tk rr (by first | assumption | omega) (by first | assumption | omega) s.heap.size) (zcwV 0 htz zq_281 zq_278 zq_280 zp_4 zq_5 (by decide +kernel) ⟨Nat.le_of_ble_eq_true rfl, Nat.le_of_ble_eq_true rfl⟩) 0 1 rfl rfl [0] [] rfl rfl rfl (by decide) rfl hl.1 rfl (Nat.le_of_ble_eq_true rfl) zd_Q_movers_1 ⟨Nat.le_of_ble_eq_true rfl, Nat.le_of_ble_eq_true rfl⟩ (fun r u H locs hw hP hD hS => ?_)
  rcases hw with ⟨rfl, rfl, hw1_⟩ | ⟨rfl, rfl, hw2_⟩
  · have hP : va_P (dC, dI) zcl [(ra, .inr (1, [.ref hp, .ref ah, .ref am, .ref at_, .ref asp, .ref afa, .ref ado, .ref adt, .ref aor, .int (nI cr), .int (nI ho), .int (nI nx), .int (nI ba), .int (nI pl), .int (nI tk), .long rr]))] H := hP
    have hD : va_D A [(ra, .inr (1, [.ref hp, .ref ah, .ref am, .ref at_, .ref asp, .ref afa, .ref ado, .ref adt, .ref aor, .int (nI cr), .int (nI ho), .int (nI nx), .int (nI ba), .int (nI pl), .int (nI tk), .long rr]))] := hD
    have hw9 := hw1_
    refine lv_if_eq (tgt := 14) hx hb zd_Q_movers_4 (by decide) (fun c3_ => absurd c3_ (by decide)) (fun _ => ?_)
    refine lv_aload_n hx hb zd_Q_movers_7 rfl (lv_at hl 0 rfl) ?_
    refine va_get (D := (dC, dI)) (ci := 1) (v := .int (nI cr)) (C := zR_Q) (T := zF_Q) (N := 16) hx hb htz zi_Q hown hK hP 0 rfl rfl 9 (by decide) (htz _ zq_70) (fun _ h9 => h9) rfl zd_Q_movers_8 ?_
    refine lv_goto (tgt := 18) hx hb zd_Q_movers_11 (by decide) ?_
    exact z_iret hx hb hr hlocks hP hK hD hS zd_Q_movers_18 (by decide) (by decide) ⟨by rw [zmvs, if_pos hw9], rfl⟩
  · have hP : va_P (dC, dI) zcl [(ra, .inr (1, [.ref hp, .ref ah, .ref am, .ref at_, .ref asp, .ref afa, .ref ado, .ref adt, .ref aor, .int (nI cr), .int (nI ho), .int (nI nx), .int (nI ba), .int (nI pl), .int (nI tk), .long rr]))] H := hP
    have hD : va_D A [(ra, .inr (1, [.ref hp, .ref ah, .ref am, .ref at_, .ref asp, .ref afa, .ref ado, .ref adt, .ref aor, .int (nI cr), .int (nI ho), .int (nI nx), .int (nI ba), .int (nI pl), .int (nI tk), .long rr]))] := hD
    have hw9 := hw2_
    refine lv_if_eq (tgt := 14) hx hb zd_Q_movers_4 (by decide) (fun _ => ?_) (fun c4_ => absurd (by decide) c4_)
    refine lv_aload_n hx hb zd_Q_movers_14 rfl (lv_at hl 0 rfl) ?_
    refine va_get (D := (dC, dI)) (ci := 1) (v := .int (nI ho)) (C := zR_Q) (T := zF_Q) (N := 16) hx hb htz zi_Q hown hK hP 0 rfl rfl 10 (by decide) (htz _ zq_71) (fun _ h9 => h9) rfl zd_Q_movers_15 ?_
    exact z_iret hx hb hr hlocks hP hK hD hS zd_Q_movers_18 (by decide) (by decide) ⟨by rw [zmvs, if_neg (Nat.not_lt.mpr hw9)], rfl⟩
set_option maxHeartbeats 4000000 in
set_option maxRecDepth 100000 in
/--  -/
theorem k_Race_allTicks (l : Launch) (dC : Nat → ClassId) (dI : Nat → Nat → Nat) (cI cJ cZ : ClassId) (ra : Nat) (hp : Nat) (ah : Nat) (am : Nat) (at_ : Nat) (asp : Nat) (afa : Nat) (ado : Nat) (adt : Nat) (aor : Nat) (cr : Nat) (ho : Nat) (nx : Nat) (ba : Nat) (pl : Nat) (tk : Nat) (rr : Int64)  (sz : Nat) : zMi l zy_Q_allTicks zw_Q_allTicks ({ frames := 0, cells := 0, slots := 0, locals := 0 }) [.ref ra] (dC, dI) zcl [(cI, .int), (cJ, .long), (cZ, .boolean)] [(ra, .inr (1, [.ref hp, .ref ah, .ref am, .ref at_, .ref asp, .ref afa, .ref ado, .ref adt, .ref aor, .int (nI cr), .int (nI ho), .int (nI nx), .int (nI ba), .int (nI pl), .int (nI tk), .long rr]))] sz (fun (r : Int32) (u : va_W) => r = nI tk ∧ u = [(ra, .inr (1, [.ref hp, .ref ah, .ref am, .ref at_, .ref asp, .ref afa, .ref ado, .ref adt, .ref aor, .int (nI cr), .int (nI ho), .int (nI nx), .int (nI ba), .int (nI pl), .int (nI tk), .long rr]))]) := by
  refine z_ofi (cc := zc_Q_allTicks) (maxL := 1) (ret := (some .int)) (by decide) rfl (Nat.le_of_ble_eq_true rfl) ?_
  intro p e s m below meth c A ls hx hb hr hml hown htz hlocks hin hA hP hK hD hS hl
  have hown : s.vm.findClass zR_Q = some m.cls := hown
  have hl : lv_has ls 1 [(0, .ref ra)] := hl
  refine lv_aload_n hx hb zd_Q_allTicks_0 rfl (lv_at hl 0 rfl) ?_
  refine va_get (D := (dC, dI)) (ci := 1) (v := .int (nI tk)) (C := zR_Q) (T := zF_Q) (N := 16) hx hb htz zi_Q hown hK hP 0 rfl rfl 14 (by decide) (htz _ zq_75) (fun _ h9 => h9) rfl zd_Q_allTicks_1 ?_
  exact z_iret hx hb hr hlocks hP hK hD hS zd_Q_allTicks_4 (by decide) (by decide) ⟨rfl, rfl⟩
set_option maxHeartbeats 4000000 in
set_option maxRecDepth 100000 in
/--  -/
theorem k_Race_letGo_k (l : Launch) (dC : Nat → ClassId) (dI : Nat → Nat → Nat) (cI cJ cZ : ClassId) (ra : Nat) (hp : Nat) (ah : Nat) (am : Nat) (at_ : Nat) (asp : Nat) (afa : Nat) (ado : Nat) (adt : Nat) (aor : Nat) (cr : Nat) (ho : Nat) (nx : Nat) (ba : Nat) (pl : Nat) (tk : Nat) (rr : Int64) (hd : Nat → Int32) (j : Nat) (hc : cr ≤ 16) (hj : j < cr) (hh : ho = zcnt hd cr) (sz : Nat) : zMv l zy_Q_letGo zw_Q_letGo ({ frames := 1, cells := 0, slots := 0, locals := 21 }) [.ref ra, .int (nI j)] (dC, dI) zcl [(cI, .int), (cJ, .long), (cZ, .boolean)] [(ra, .inr (1, [.ref hp, .ref ah, .ref am, .ref at_, .ref asp, .ref afa, .ref ado, .ref adt, .ref aor, .int (nI cr), .int (nI ho), .int (nI nx), .int (nI ba), .int (nI pl), .int (nI tk), .long rr])), (ah, .inl (cI, 16, .inl hd))] sz (fun (u : va_W) => ∃ (h2 : Nat) (h9 : Nat → Int32), u = [(ra, .inr (1, [.ref hp, .ref ah, .ref am, .ref at_, .ref asp, .ref afa, .ref ado, .ref adt, .ref aor, .int (nI cr), .int (nI h2), .int (nI nx), .int (nI ba), .int (nI pl), .int (nI tk), .long rr])), (ah, .inl (cI, 16, .inl h9))] ∧ h9 = upd hd j (-1) ∧ h2 = zcnt h9 cr) := by
  refine z_ofv (cc := zc_Q_letGo) (maxL := 2) (ret := none) (by decide) rfl (Nat.le_of_ble_eq_true rfl) ?_
  intro p e s m below meth c A ls hx hb hr hml hown htz hlocks hin hA hP hK hD hS hl
  have hown : s.vm.findClass zR_Q = some m.cls := hown
  have hl : lv_has ls 2 [(0, .ref ra), (1, .int (nI j))] := hl
  refine lv_aload_n hx hb zd_Q_letGo_0 rfl (lv_at hl 0 rfl) ?_
  refine lv_iload_n hx hb zd_Q_letGo_1 rfl (lv_at hl 1 rfl) ?_
  refine z_Vi (As := [.int (nI j)]) (rest := []) (wc := [(ra, .inr (1, [.ref hp, .ref ah, .ref am, .ref at_, .ref asp, .ref afa, .ref ado, .ref adt, .ref aor, .int (nI cr), .int (nI ho), .int (nI nx), .int (nI ba), .int (nI pl), .int (nI tk), .long rr]))]) (wr := [(ah, .inl (cI, 16, .inl hd))]) ⟨hx, hb, hml, hown, htz⟩ hK hP hD hS hA (k_Race_hasWorker_k l dC dI cI cJ cZ ra hp ah am at_ asp afa ado adt aor cr ho nx ba pl tk rr j (by first | assumption | omega) (by first | assumption | omega) s.heap.size) (zcwV 1 htz zq_295 zq_292 zq_293 zq_294 zq_5 (by decide +kernel) ⟨Nat.le_of_ble_eq_true rfl, Nat.le_of_ble_eq_true rfl⟩) 0 1 rfl rfl [0] [1] rfl rfl rfl (by decide) rfl hl.1 rfl (Nat.le_of_ble_eq_true rfl) zd_Q_letGo_2 ⟨Nat.le_of_ble_eq_true rfl, Nat.le_of_ble_eq_true rfl⟩ (fun r u H locs hw hP hD hS => ?_)
  obtain ⟨rfl, rfl⟩ := hw
  have hP : va_P (dC, dI) zcl [(ah, .inl (cI, 16, .inl hd)), (ra, .inr (1, [.ref hp, .ref ah, .ref am, .ref at_, .ref asp, .ref afa, .ref ado, .ref adt, .ref aor, .int (nI cr), .int (nI ho), .int (nI nx), .int (nI ba), .int (nI pl), .int (nI tk), .long rr]))] H := hP
  have hD : va_D A [(ah, .inl (cI, 16, .inl hd)), (ra, .inr (1, [.ref hp, .ref ah, .ref am, .ref at_, .ref asp, .ref afa, .ref ado, .ref adt, .ref aor, .int (nI cr), .int (nI ho), .int (nI nx), .int (nI ba), .int (nI pl), .int (nI tk), .long rr]))] := hD
  refine lv_if_eq (tgt := 35) hx hb zd_Q_letGo_5 (by decide) (fun c1_ => absurd c1_ (by decide)) (fun _ => ?_)
  refine lv_aload_n hx hb zd_Q_letGo_8 rfl (lv_at hl 0 rfl) ?_
  refine va_get (D := (dC, dI)) (ci := 1) (v := .ref ah) (C := zR_Q) (T := zF_Q) (N := 16) hx hb htz zi_Q hown hK hP 1 rfl rfl 1 (by decide) (htz _ zq_62) (fun _ h9 => h9) rfl zd_Q_letGo_9 ?_
  refine lv_iload_n hx hb zd_Q_letGo_12 rfl (lv_at hl 1 rfl) ?_
  refine z_iald hx hb hK hP 0 0 rfl rfl (j := j) (by omega) (by decide) zd_Q_letGo_13 ?_
  refine lv_iconst (v := (-1)) hx hb zd_Q_letGo_14 (by decide) ?_
  refine lv_icmp_eq (tgt := 35) hx hb zd_Q_letGo_15 (by decide) (fun c2_ => ?_) (fun c2_ => ?_)
  · have eu : upd hd j (-1) = hd := z_updself c2_
    have hP := hP.sub (ws' := [(ra, .inr (1, [.ref hp, .ref ah, .ref am, .ref at_, .ref asp, .ref afa, .ref ado, .ref adt, .ref aor, .int (nI cr), .int (nI ho), .int (nI nx), .int (nI ba), .int (nI pl), .int (nI tk), .long rr])), (ah, .inl (cI, 16, .inl hd))]) [1, 0] rfl
    have hD := hD.sub (ws' := [(ra, .inr (1, [.ref hp, .ref ah, .ref am, .ref at_, .ref asp, .ref afa, .ref ado, .ref adt, .ref aor, .int (nI cr), .int (nI ho), .int (nI nx), .int (nI ba), .int (nI pl), .int (nI tk), .long rr])), (ah, .inl (cI, 16, .inl hd))]) [1, 0] (by decide) rfl
    exact z_vret hx hb hr hlocks hP hK hD hS zd_Q_letGo_35 (by decide) (by decide) ⟨ho, hd, rfl, eu.symm, hh⟩
  · have c_off : hd j ≠ -1 := c2_
    refine lv_aload_n hx hb zd_Q_letGo_18 rfl (lv_at hl 0 rfl) ?_
    refine va_get (D := (dC, dI)) (ci := 1) (v := .ref ah) (C := zR_Q) (T := zF_Q) (N := 16) hx hb htz zi_Q hown hK hP 1 rfl rfl 1 (by decide) (htz _ zq_62) (fun _ h9 => h9) rfl zd_Q_letGo_19 ?_
    refine lv_iload_n hx hb zd_Q_letGo_22 rfl (lv_at hl 1 rfl) ?_
    refine lv_iconst (v := (-1)) hx hb zd_Q_letGo_23 (by decide) ?_
    refine z_iast hx hb hK hP hD hS 0 0 rfl rfl (j := j) (by omega) (by decide) zd_Q_letGo_24 (fun H locs hP hD hS => ?_)
    have hP : va_P (dC, dI) zcl [(ah, .inl (cI, 16, .inl (upd hd j (-1)))), (ra, .inr (1, [.ref hp, .ref ah, .ref am, .ref at_, .ref asp, .ref afa, .ref ado, .ref adt, .ref aor, .int (nI cr), .int (nI ho), .int (nI nx), .int (nI ba), .int (nI pl), .int (nI tk), .long rr]))] H := hP
    have hD : va_D A [(ah, .inl (cI, 16, .inl (upd hd j (-1)))), (ra, .inr (1, [.ref hp, .ref ah, .ref am, .ref at_, .ref asp, .ref afa, .ref ado, .ref adt, .ref aor, .int (nI cr), .int (nI ho), .int (nI nx), .int (nI ba), .int (nI pl), .int (nI tk), .long rr]))] := hD
    refine lv_aload_n hx hb zd_Q_letGo_25 rfl (lv_at hl 0 rfl) ?_
    refine lv_dup hx hb zd_Q_letGo_26 rfl ?_
    refine va_get (D := (dC, dI)) (ci := 1) (v := .int (nI ho)) (C := zR_Q) (T := zF_Q) (N := 16) hx hb htz zi_Q hown hK hP 1 rfl rfl 10 (by decide) (htz _ zq_71) (fun _ h9 => h9) rfl zd_Q_letGo_27 ?_
    refine lv_iconst (v := (nI 1)) hx hb zd_Q_letGo_30 (by decide) ?_
    refine lv_isub hx hb zd_Q_letGo_31 ?_
    have hz9 := zcnt_off cr hj c_off
    refine z_topi (y := nI (ho - 1)) (pk_sub (by omega)) ?_
    refine va_put (D := (dC, dI)) (ci := 1) (v := .int (nI (ho - 1))) (ty := .int) (C := zR_Q) (T := zF_Q) (N := 16) hx hb htz zi_Q zt_Q zt_Q_ok zn_Q hown hK hP hD hS 1 rfl rfl 10 (by decide) (htz _ zq_71) (fun _ h9 => h9) rfl (by decide +kernel) rfl rfl (Nat.le_of_ble_eq_true rfl) zd_Q_letGo_32 (fun H locs hP hD hS => ?_)
    have hP : va_P (dC, dI) zcl [(ah, .inl (cI, 16, .inl (upd hd j (-1)))), (ra, .inr (1, [.ref hp, .ref ah, .ref am, .ref at_, .ref asp, .ref afa, .ref ado, .ref adt, .ref aor, .int (nI cr), .int (nI (ho - 1)), .int (nI nx), .int (nI ba), .int (nI pl), .int (nI tk), .long rr]))] H := hP
    have hD : va_D A [(ah, .inl (cI, 16, .inl (upd hd j (-1)))), (ra, .inr (1, [.ref hp, .ref ah, .ref am, .ref at_, .ref asp, .ref afa, .ref ado, .ref adt, .ref aor, .int (nI cr), .int (nI (ho - 1)), .int (nI nx), .int (nI ba), .int (nI pl), .int (nI tk), .long rr]))] := hD
    have hP := hP.sub (ws' := [(ra, .inr (1, [.ref hp, .ref ah, .ref am, .ref at_, .ref asp, .ref afa, .ref ado, .ref adt, .ref aor, .int (nI cr), .int (nI (ho - 1)), .int (nI nx), .int (nI ba), .int (nI pl), .int (nI tk), .long rr])), (ah, .inl (cI, 16, .inl (upd hd j (-1))))]) [1, 0] rfl
    have hD := hD.sub (ws' := [(ra, .inr (1, [.ref hp, .ref ah, .ref am, .ref at_, .ref asp, .ref afa, .ref ado, .ref adt, .ref aor, .int (nI cr), .int (nI (ho - 1)), .int (nI nx), .int (nI ba), .int (nI pl), .int (nI tk), .long rr])), (ah, .inl (cI, 16, .inl (upd hd j (-1))))]) [1, 0] (by decide) rfl
    exact z_vret hx hb hr hlocks hP hK hD hS zd_Q_letGo_35 (by decide) (by decide) ⟨ho - 1, _, rfl, rfl, by omega⟩
set_option maxHeartbeats 4000000 in
set_option maxRecDepth 100000 in
/--  -/
theorem k_Race_takeNext_k (l : Launch) (dC : Nat → ClassId) (dI : Nat → Nat → Nat) (cI cJ cZ : ClassId) (ra : Nat) (hp : Nat) (ah : Nat) (am : Nat) (at_ : Nat) (asp : Nat) (afa : Nat) (ado : Nat) (adt : Nat) (aor : Nat) (cr : Nat) (ho : Nat) (nx : Nat) (ba : Nat) (pl : Nat) (tk : Nat) (rr : Int64) (hd : Nat → Int32) (j : Nat) (hc : cr ≤ 16) (hj : j < cr) (hnx : nx ≤ 16) (hba : ba ≤ 16) (hw : nx < ba) (sz : Nat) : zMv l zy_Q_takeNext zw_Q_takeNext ({ frames := 1, cells := 0, slots := 0, locals := 21 }) [.ref ra, .int (nI j)] (dC, dI) zcl [(cI, .int), (cJ, .long), (cZ, .boolean)] [(ra, .inr (1, [.ref hp, .ref ah, .ref am, .ref at_, .ref asp, .ref afa, .ref ado, .ref adt, .ref aor, .int (nI cr), .int (nI ho), .int (nI nx), .int (nI ba), .int (nI pl), .int (nI tk), .long rr])), (ah, .inl (cI, 16, .inl hd))] sz (fun (u : va_W) => u = [(ra, .inr (1, [.ref hp, .ref ah, .ref am, .ref at_, .ref asp, .ref afa, .ref ado, .ref adt, .ref aor, .int (nI cr), .int (nI (ho + 1)), .int (nI (nx + 1)), .int (nI ba), .int (nI pl), .int (nI tk), .long rr])), (ah, .inl (cI, 16, .inl (upd hd j (nI nx))))]) := by
  refine z_ofv (cc := zc_Q_takeNext) (maxL := 2) (ret := none) (by decide) rfl (Nat.le_of_ble_eq_true rfl) ?_
  intro p e s m below meth c A ls hx hb hr hml hown htz hlocks hin hA hP hK hD hS hl
  have hown : s.vm.findClass zR_Q = some m.cls := hown
  have hl : lv_has ls 2 [(0, .ref ra), (1, .int (nI j))] := hl
  refine lv_aload_n hx hb zd_Q_takeNext_0 rfl (lv_at hl 0 rfl) ?_
  refine lv_iload_n hx hb zd_Q_takeNext_1 rfl (lv_at hl 1 rfl) ?_
  refine z_Vi (As := [.int (nI j)]) (rest := []) (wc := [(ra, .inr (1, [.ref hp, .ref ah, .ref am, .ref at_, .ref asp, .ref afa, .ref ado, .ref adt, .ref aor, .int (nI cr), .int (nI ho), .int (nI nx), .int (nI ba), .int (nI pl), .int (nI tk), .long rr]))]) (wr := [(ah, .inl (cI, 16, .inl hd))]) ⟨hx, hb, hml, hown, htz⟩ hK hP hD hS hA (k_Race_hasWorker_k l dC dI cI cJ cZ ra hp ah am at_ asp afa ado adt aor cr ho nx ba pl tk rr j (by first | assumption | omega) (by first | assumption | omega) s.heap.size) (zcwV 1 htz zq_295 zq_292 zq_293 zq_294 zq_5 (by decide +kernel) ⟨Nat.le_of_ble_eq_true rfl, Nat.le_of_ble_eq_true rfl⟩) 0 1 rfl rfl [0] [1] rfl rfl rfl (by decide) rfl hl.1 rfl (Nat.le_of_ble_eq_true rfl) zd_Q_takeNext_2 ⟨Nat.le_of_ble_eq_true rfl, Nat.le_of_ble_eq_true rfl⟩ (fun r u H locs hw hP hD hS => ?_)
  obtain ⟨rfl, rfl⟩ := hw
  have hP : va_P (dC, dI) zcl [(ah, .inl (cI, 16, .inl hd)), (ra, .inr (1, [.ref hp, .ref ah, .ref am, .ref at_, .ref asp, .ref afa, .ref ado, .ref adt, .ref aor, .int (nI cr), .int (nI ho), .int (nI nx), .int (nI ba), .int (nI pl), .int (nI tk), .long rr]))] H := hP
  have hD : va_D A [(ah, .inl (cI, 16, .inl hd)), (ra, .inr (1, [.ref hp, .ref ah, .ref am, .ref at_, .ref asp, .ref afa, .ref ado, .ref adt, .ref aor, .int (nI cr), .int (nI ho), .int (nI nx), .int (nI ba), .int (nI pl), .int (nI tk), .long rr]))] := hD
  refine lv_if_eq (tgt := 45) hx hb zd_Q_takeNext_5 (by decide) (fun c1_ => absurd c1_ (by decide)) (fun _ => ?_)
  refine lv_aload_n hx hb zd_Q_takeNext_8 rfl (lv_at hl 0 rfl) ?_
  refine z_Vi (As := []) (rest := []) (wc := [(ra, .inr (1, [.ref hp, .ref ah, .ref am, .ref at_, .ref asp, .ref afa, .ref ado, .ref adt, .ref aor, .int (nI cr), .int (nI ho), .int (nI nx), .int (nI ba), .int (nI pl), .int (nI tk), .long rr]))]) (wr := [(ah, .inl (cI, 16, .inl hd))]) ⟨hx, hb, hml, hown, htz⟩ hK hP hD hS hA (k_Race_someShareWaits l dC dI cI cJ cZ ra hp ah am at_ asp afa ado adt aor cr ho nx ba pl tk rr (by first | assumption | omega) (by first | assumption | omega) H.size) (zcwV 0 htz zq_281 zq_278 zq_280 zp_4 zq_5 (by decide +kernel) ⟨Nat.le_of_ble_eq_true rfl, Nat.le_of_ble_eq_true rfl⟩) 1 1 rfl rfl [1] [0] rfl rfl rfl (by decide) rfl hl.1 rfl (Nat.le_of_ble_eq_true rfl) zd_Q_takeNext_9 ⟨Nat.le_of_ble_eq_true rfl, Nat.le_of_ble_eq_true rfl⟩ (fun r u H locs hw hP hD hS => ?_)
  rcases hw with ⟨rfl, rfl, hw2_⟩ | ⟨rfl, rfl, hw3_⟩
  · have hP : va_P (dC, dI) zcl [(ah, .inl (cI, 16, .inl hd)), (ra, .inr (1, [.ref hp, .ref ah, .ref am, .ref at_, .ref asp, .ref afa, .ref ado, .ref adt, .ref aor, .int (nI cr), .int (nI ho), .int (nI nx), .int (nI ba), .int (nI pl), .int (nI tk), .long rr]))] H := hP
    have hD : va_D A [(ah, .inl (cI, 16, .inl hd)), (ra, .inr (1, [.ref hp, .ref ah, .ref am, .ref at_, .ref asp, .ref afa, .ref ado, .ref adt, .ref aor, .int (nI cr), .int (nI ho), .int (nI nx), .int (nI ba), .int (nI pl), .int (nI tk), .long rr]))] := hD
    refine lv_if_eq (tgt := 45) hx hb zd_Q_takeNext_12 (by decide) (fun c4_ => absurd c4_ (by decide)) (fun _ => ?_)
    refine lv_aload_n hx hb zd_Q_takeNext_15 rfl (lv_at hl 0 rfl) ?_
    refine va_get (D := (dC, dI)) (ci := 1) (v := .ref ah) (C := zR_Q) (T := zF_Q) (N := 16) hx hb htz zi_Q hown hK hP 1 rfl rfl 1 (by decide) (htz _ zq_62) (fun _ h9 => h9) rfl zd_Q_takeNext_16 ?_
    refine lv_iload_n hx hb zd_Q_takeNext_19 rfl (lv_at hl 1 rfl) ?_
    refine lv_aload_n hx hb zd_Q_takeNext_20 rfl (lv_at hl 0 rfl) ?_
    refine va_get (D := (dC, dI)) (ci := 1) (v := .int (nI nx)) (C := zR_Q) (T := zF_Q) (N := 16) hx hb htz zi_Q hown hK hP 1 rfl rfl 11 (by decide) (htz _ zq_72) (fun _ h9 => h9) rfl zd_Q_takeNext_21 ?_
    refine z_iast hx hb hK hP hD hS 0 0 rfl rfl (j := j) (by omega) (by decide) zd_Q_takeNext_24 (fun H locs hP hD hS => ?_)
    have hP : va_P (dC, dI) zcl [(ah, .inl (cI, 16, .inl (upd hd j (nI nx)))), (ra, .inr (1, [.ref hp, .ref ah, .ref am, .ref at_, .ref asp, .ref afa, .ref ado, .ref adt, .ref aor, .int (nI cr), .int (nI ho), .int (nI nx), .int (nI ba), .int (nI pl), .int (nI tk), .long rr]))] H := hP
    have hD : va_D A [(ah, .inl (cI, 16, .inl (upd hd j (nI nx)))), (ra, .inr (1, [.ref hp, .ref ah, .ref am, .ref at_, .ref asp, .ref afa, .ref ado, .ref adt, .ref aor, .int (nI cr), .int (nI ho), .int (nI nx), .int (nI ba), .int (nI pl), .int (nI tk), .long rr]))] := hD
    refine lv_aload_n hx hb zd_Q_takeNext_25 rfl (lv_at hl 0 rfl) ?_
    refine lv_dup hx hb zd_Q_takeNext_26 rfl ?_
    refine va_get (D := (dC, dI)) (ci := 1) (v := .int (nI ho)) (C := zR_Q) (T := zF_Q) (N := 16) hx hb htz zi_Q hown hK hP 1 rfl rfl 10 (by decide) (htz _ zq_71) (fun _ h9 => h9) rfl zd_Q_takeNext_27 ?_
    refine lv_iconst (v := (nI 1)) hx hb zd_Q_takeNext_30 (by decide) ?_
    refine lv_iadd hx hb zd_Q_takeNext_31 ?_
    refine z_topi (y := (nI (ho + 1))) (nI_add ho 1) ?_
    refine va_put (D := (dC, dI)) (ci := 1) (v := .int (nI (ho + 1))) (ty := .int) (C := zR_Q) (T := zF_Q) (N := 16) hx hb htz zi_Q zt_Q zt_Q_ok zn_Q hown hK hP hD hS 1 rfl rfl 10 (by decide) (htz _ zq_71) (fun _ h9 => h9) rfl (by decide +kernel) rfl rfl (Nat.le_of_ble_eq_true rfl) zd_Q_takeNext_32 (fun H locs hP hD hS => ?_)
    have hP : va_P (dC, dI) zcl [(ah, .inl (cI, 16, .inl (upd hd j (nI nx)))), (ra, .inr (1, [.ref hp, .ref ah, .ref am, .ref at_, .ref asp, .ref afa, .ref ado, .ref adt, .ref aor, .int (nI cr), .int (nI (ho + 1)), .int (nI nx), .int (nI ba), .int (nI pl), .int (nI tk), .long rr]))] H := hP
    have hD : va_D A [(ah, .inl (cI, 16, .inl (upd hd j (nI nx)))), (ra, .inr (1, [.ref hp, .ref ah, .ref am, .ref at_, .ref asp, .ref afa, .ref ado, .ref adt, .ref aor, .int (nI cr), .int (nI (ho + 1)), .int (nI nx), .int (nI ba), .int (nI pl), .int (nI tk), .long rr]))] := hD
    refine lv_aload_n hx hb zd_Q_takeNext_35 rfl (lv_at hl 0 rfl) ?_
    refine lv_dup hx hb zd_Q_takeNext_36 rfl ?_
    refine va_get (D := (dC, dI)) (ci := 1) (v := .int (nI nx)) (C := zR_Q) (T := zF_Q) (N := 16) hx hb htz zi_Q hown hK hP 1 rfl rfl 11 (by decide) (htz _ zq_72) (fun _ h9 => h9) rfl zd_Q_takeNext_37 ?_
    refine lv_iconst (v := (nI 1)) hx hb zd_Q_takeNext_40 (by decide) ?_
    refine lv_iadd hx hb zd_Q_takeNext_41 ?_
    refine z_topi (y := (nI (nx + 1))) (nI_add nx 1) ?_
    refine va_put (D := (dC, dI)) (ci := 1) (v := .int (nI (nx + 1))) (ty := .int) (C := zR_Q) (T := zF_Q) (N := 16) hx hb htz zi_Q zt_Q zt_Q_ok zn_Q hown hK hP hD hS 1 rfl rfl 11 (by decide) (htz _ zq_72) (fun _ h9 => h9) rfl (by decide +kernel) rfl rfl (Nat.le_of_ble_eq_true rfl) zd_Q_takeNext_42 (fun H locs hP hD hS => ?_)
    have hP : va_P (dC, dI) zcl [(ah, .inl (cI, 16, .inl (upd hd j (nI nx)))), (ra, .inr (1, [.ref hp, .ref ah, .ref am, .ref at_, .ref asp, .ref afa, .ref ado, .ref adt, .ref aor, .int (nI cr), .int (nI (ho + 1)), .int (nI (nx + 1)), .int (nI ba), .int (nI pl), .int (nI tk), .long rr]))] H := hP
    have hD : va_D A [(ah, .inl (cI, 16, .inl (upd hd j (nI nx)))), (ra, .inr (1, [.ref hp, .ref ah, .ref am, .ref at_, .ref asp, .ref afa, .ref ado, .ref adt, .ref aor, .int (nI cr), .int (nI (ho + 1)), .int (nI (nx + 1)), .int (nI ba), .int (nI pl), .int (nI tk), .long rr]))] := hD
    have hP := hP.sub (ws' := [(ra, .inr (1, [.ref hp, .ref ah, .ref am, .ref at_, .ref asp, .ref afa, .ref ado, .ref adt, .ref aor, .int (nI cr), .int (nI (ho + 1)), .int (nI (nx + 1)), .int (nI ba), .int (nI pl), .int (nI tk), .long rr])), (ah, .inl (cI, 16, .inl (upd hd j (nI nx))))]) [1, 0] rfl
    have hD := hD.sub (ws' := [(ra, .inr (1, [.ref hp, .ref ah, .ref am, .ref at_, .ref asp, .ref afa, .ref ado, .ref adt, .ref aor, .int (nI cr), .int (nI (ho + 1)), .int (nI (nx + 1)), .int (nI ba), .int (nI pl), .int (nI tk), .long rr])), (ah, .inl (cI, 16, .inl (upd hd j (nI nx))))]) [1, 0] (by decide) rfl
    exact z_vret hx hb hr hlocks hP hK hD hS zd_Q_takeNext_45 (by decide) (by decide) rfl
  · have hP : va_P (dC, dI) zcl [(ah, .inl (cI, 16, .inl hd)), (ra, .inr (1, [.ref hp, .ref ah, .ref am, .ref at_, .ref asp, .ref afa, .ref ado, .ref adt, .ref aor, .int (nI cr), .int (nI ho), .int (nI nx), .int (nI ba), .int (nI pl), .int (nI tk), .long rr]))] H := hP
    have hD : va_D A [(ah, .inl (cI, 16, .inl hd)), (ra, .inr (1, [.ref hp, .ref ah, .ref am, .ref at_, .ref asp, .ref afa, .ref ado, .ref adt, .ref aor, .int (nI cr), .int (nI ho), .int (nI nx), .int (nI ba), .int (nI pl), .int (nI tk), .long rr]))] := hD
    exact absurd hw (Nat.not_lt.mpr hw3_)
end
section
set_option maxHeartbeats 4000000 in
set_option maxRecDepth 100000 in
/--  -/
theorem k_Race_spendTick_k (l : Launch) (dC : Nat → ClassId) (dI : Nat → Nat → Nat) (cI cJ cZ : ClassId) (ra : Nat) (hp : Nat) (ah : Nat) (am : Nat) (at_ : Nat) (asp : Nat) (afa : Nat) (ado : Nat) (adt : Nat) (aor : Nat) (cr : Nat) (ho : Nat) (nx : Nat) (ba : Nat) (pl : Nat) (tk : Nat) (rr : Int64) (aw : Nat) (av : Nat) (az : Nat) (af : Nat) (n : Nat) (wk : Nat → Int32) (fl : Nat → Int32) (tt : Nat → Int32) (sp : Nat → Int32) (fa : Nat → Int32) (j : Nat) (hn : n ≤ 16) (hj : j < n) (sz : Nat) : zMi l zy_Q_spendTick zw_Q_spendTick ({ frames := 2, cells := 0, slots := 0, locals := 42 }) [.ref ra, .int (nI j)] (dC, dI) zcl [(cI, .int), (cJ, .long), (cZ, .boolean)] [(ra, .inr (1, [.ref hp, .ref ah, .ref am, .ref at_, .ref asp, .ref afa, .ref ado, .ref adt, .ref aor, .int (nI cr), .int (nI ho), .int (nI nx), .int (nI ba), .int (nI pl), .int (nI tk), .long rr])), (hp, .inr (0, [.int (nI n), .ref aw, .ref av, .ref az, .ref af])), (aw, .inl (cI, 16, .inl wk)), (af, .inl (cI, 16, .inl fl)), (at_, .inl (cI, 16, .inl tt)), (asp, .inl (cI, 16, .inl sp)), (afa, .inl (cI, 16, .inl fa))] sz (fun (r : Int32) (u : va_W) => (r = nI 0 ∧ u = [(ra, .inr (1, [.ref hp, .ref ah, .ref am, .ref at_, .ref asp, .ref afa, .ref ado, .ref adt, .ref aor, .int (nI cr), .int (nI ho), .int (nI nx), .int (nI ba), .int (nI pl), .int (nI tk), .long rr])), (hp, .inr (0, [.int (nI n), .ref aw, .ref av, .ref az, .ref af])), (aw, .inl (cI, 16, .inl wk)), (af, .inl (cI, 16, .inl fl)), (at_, .inl (cI, 16, .inl (upd tt j (tt j + 1)))), (asp, .inl (cI, 16, .inl (upd sp j (sp j + 1)))), (afa, .inl (cI, 16, .inl fa))] ∧ tt j + 1 < wk j) ∨ (r = nI 0 ∧ u = [(ra, .inr (1, [.ref hp, .ref ah, .ref am, .ref at_, .ref asp, .ref afa, .ref ado, .ref adt, .ref aor, .int (nI cr), .int (nI ho), .int (nI nx), .int (nI ba), .int (nI pl), .int (nI tk), .long rr])), (hp, .inr (0, [.int (nI n), .ref aw, .ref av, .ref az, .ref af])), (aw, .inl (cI, 16, .inl wk)), (af, .inl (cI, 16, .inl fl)), (at_, .inl (cI, 16, .inl (upd (upd tt j (tt j + 1)) j 0))), (asp, .inl (cI, 16, .inl (upd sp j (sp j + 1)))), (afa, .inl (cI, 16, .inl (upd fa j (fa j + 1))))] ∧ ¬ tt j + 1 < wk j ∧ fa j < fl j) ∨ (r = nI 1 ∧ u = [(ra, .inr (1, [.ref hp, .ref ah, .ref am, .ref at_, .ref asp, .ref afa, .ref ado, .ref adt, .ref aor, .int (nI cr), .int (nI ho), .int (nI nx), .int (nI ba), .int (nI pl), .int (nI tk), .long rr])), (hp, .inr (0, [.int (nI n), .ref aw, .ref av, .ref az, .ref af])), (aw, .inl (cI, 16, .inl wk)), (af, .inl (cI, 16, .inl fl)), (at_, .inl (cI, 16, .inl (upd (upd tt j (tt j + 1)) j 0))), (asp, .inl (cI, 16, .inl (upd sp j (sp j + 1)))), (afa, .inl (cI, 16, .inl fa))] ∧ ¬ tt j + 1 < wk j ∧ ¬ fa j < fl j)) := by
  refine z_ofi (cc := zc_Q_spendTick) (maxL := 2) (ret := (some .boolean)) (by decide) rfl (Nat.le_of_ble_eq_true rfl) ?_
  intro p e s m below meth c A ls hx hb hr hml hown htz hlocks hin hA hP hK hD hS hl
  have hown : s.vm.findClass zR_Q = some m.cls := hown
  have hl : lv_has ls 2 [(0, .ref ra), (1, .int (nI j))] := hl
  refine lv_aload_n hx hb zd_Q_spendTick_0 rfl (lv_at hl 0 rfl) ?_
  refine va_get (D := (dC, dI)) (ci := 1) (v := .ref hp) (C := zR_Q) (T := zF_Q) (N := 16) hx hb htz zi_Q hown hK hP 0 rfl rfl 0 (by decide) (htz _ zq_61) (fun _ h9 => h9) rfl zd_Q_spendTick_1 ?_
  refine lv_iload_n hx hb zd_Q_spendTick_4 rfl (lv_at hl 1 rfl) ?_
  refine z_Vi (As := [.int (nI j)]) (rest := []) (wc := [(hp, .inr (0, [.int (nI n), .ref aw, .ref av, .ref az, .ref af]))]) (wr := [(ra, .inr (1, [.ref hp, .ref ah, .ref am, .ref at_, .ref asp, .ref afa, .ref ado, .ref adt, .ref aor, .int (nI cr), .int (nI ho), .int (nI nx), .int (nI ba), .int (nI pl), .int (nI tk), .long rr])), (aw, .inl (cI, 16, .inl wk)), (af, .inl (cI, 16, .inl fl)), (at_, .inl (cI, 16, .inl tt)), (asp, .inl (cI, 16, .inl sp)), (afa, .inl (cI, 16, .inl fa))]) ⟨hx, hb, hml, hown, htz⟩ hK hP hD hS hA (k_Plan_has_k l dC dI cI cJ cZ hp aw av az af n j (by first | assumption | omega) (by first | assumption | omega) s.heap.size) (zcwV 1 htz zq_147 zq_304 zq_145 zq_146 zq_2 (by decide +kernel) ⟨Nat.le_of_ble_eq_true rfl, Nat.le_of_ble_eq_true rfl⟩) 1 0 rfl rfl [1] [0, 2, 3, 4, 5, 6] rfl rfl rfl (by decide) rfl hl.1 rfl (Nat.le_of_ble_eq_true rfl) zd_Q_spendTick_5 ⟨Nat.le_of_ble_eq_true rfl, Nat.le_of_ble_eq_true rfl⟩ (fun r u H locs hw hP hD hS => ?_)
  obtain ⟨rfl, rfl⟩ := hw
  have hP : va_P (dC, dI) zcl [(ra, .inr (1, [.ref hp, .ref ah, .ref am, .ref at_, .ref asp, .ref afa, .ref ado, .ref adt, .ref aor, .int (nI cr), .int (nI ho), .int (nI nx), .int (nI ba), .int (nI pl), .int (nI tk), .long rr])), (aw, .inl (cI, 16, .inl wk)), (af, .inl (cI, 16, .inl fl)), (at_, .inl (cI, 16, .inl tt)), (asp, .inl (cI, 16, .inl sp)), (afa, .inl (cI, 16, .inl fa)), (hp, .inr (0, [.int (nI n), .ref aw, .ref av, .ref az, .ref af]))] H := hP
  have hD : va_D A [(ra, .inr (1, [.ref hp, .ref ah, .ref am, .ref at_, .ref asp, .ref afa, .ref ado, .ref adt, .ref aor, .int (nI cr), .int (nI ho), .int (nI nx), .int (nI ba), .int (nI pl), .int (nI tk), .long rr])), (aw, .inl (cI, 16, .inl wk)), (af, .inl (cI, 16, .inl fl)), (at_, .inl (cI, 16, .inl tt)), (asp, .inl (cI, 16, .inl sp)), (afa, .inl (cI, 16, .inl fa)), (hp, .inr (0, [.int (nI n), .ref aw, .ref av, .ref az, .ref af]))] := hD
  refine lv_if_ne (tgt := 13) hx hb zd_Q_spendTick_8 (by decide) (fun _ => ?_) (fun c1_ => absurd c1_ (by decide))
  refine lv_aload_n hx hb zd_Q_spendTick_13 rfl (lv_at hl 0 rfl) ?_
  refine va_get (D := (dC, dI)) (ci := 1) (v := .ref asp) (C := zR_Q) (T := zF_Q) (N := 16) hx hb htz zi_Q hown hK hP 0 rfl rfl 4 (by decide) (htz _ zq_65) (fun _ h9 => h9) rfl zd_Q_spendTick_14 ?_
  refine lv_iload_n hx hb zd_Q_spendTick_17 rfl (lv_at hl 1 rfl) ?_
  refine lv_dup2_11 hx hb zd_Q_spendTick_18 rfl rfl ?_
  refine z_iald hx hb hK hP 4 0 rfl rfl (j := j) (by omega) (by decide) zd_Q_spendTick_19 ?_
  refine lv_iconst (v := (nI 1)) hx hb zd_Q_spendTick_20 (by decide) ?_
  refine lv_iadd hx hb zd_Q_spendTick_21 ?_
  refine z_topi (y := ((sp j) + 1)) rfl ?_
  refine z_iast hx hb hK hP hD hS 4 0 rfl rfl (j := j) (by omega) (by decide) zd_Q_spendTick_22 (fun H locs hP hD hS => ?_)
  have hP : va_P (dC, dI) zcl [(ra, .inr (1, [.ref hp, .ref ah, .ref am, .ref at_, .ref asp, .ref afa, .ref ado, .ref adt, .ref aor, .int (nI cr), .int (nI ho), .int (nI nx), .int (nI ba), .int (nI pl), .int (nI tk), .long rr])), (aw, .inl (cI, 16, .inl wk)), (af, .inl (cI, 16, .inl fl)), (at_, .inl (cI, 16, .inl tt)), (asp, .inl (cI, 16, .inl (upd sp j ((sp j) + 1)))), (afa, .inl (cI, 16, .inl fa)), (hp, .inr (0, [.int (nI n), .ref aw, .ref av, .ref az, .ref af]))] H := hP
  have hD : va_D A [(ra, .inr (1, [.ref hp, .ref ah, .ref am, .ref at_, .ref asp, .ref afa, .ref ado, .ref adt, .ref aor, .int (nI cr), .int (nI ho), .int (nI nx), .int (nI ba), .int (nI pl), .int (nI tk), .long rr])), (aw, .inl (cI, 16, .inl wk)), (af, .inl (cI, 16, .inl fl)), (at_, .inl (cI, 16, .inl tt)), (asp, .inl (cI, 16, .inl (upd sp j ((sp j) + 1)))), (afa, .inl (cI, 16, .inl fa)), (hp, .inr (0, [.int (nI n), .ref aw, .ref av, .ref az, .ref af]))] := hD
  refine lv_aload_n hx hb zd_Q_spendTick_23 rfl (lv_at hl 0 rfl) ?_
  refine va_get (D := (dC, dI)) (ci := 1) (v := .ref at_) (C := zR_Q) (T := zF_Q) (N := 16) hx hb htz zi_Q hown hK hP 0 rfl rfl 3 (by decide) (htz _ zq_64) (fun _ h9 => h9) rfl zd_Q_spendTick_24 ?_
  refine lv_iload_n hx hb zd_Q_spendTick_27 rfl (lv_at hl 1 rfl) ?_
  refine lv_dup2_11 hx hb zd_Q_spendTick_28 rfl rfl ?_
  refine z_iald hx hb hK hP 3 0 rfl rfl (j := j) (by omega) (by decide) zd_Q_spendTick_29 ?_
  refine lv_iconst (v := (nI 1)) hx hb zd_Q_spendTick_30 (by decide) ?_
  refine lv_iadd hx hb zd_Q_spendTick_31 ?_
  refine z_topi (y := ((tt j) + 1)) rfl ?_
  refine z_iast hx hb hK hP hD hS 3 0 rfl rfl (j := j) (by omega) (by decide) zd_Q_spendTick_32 (fun H locs hP hD hS => ?_)
  have hP : va_P (dC, dI) zcl [(ra, .inr (1, [.ref hp, .ref ah, .ref am, .ref at_, .ref asp, .ref afa, .ref ado, .ref adt, .ref aor, .int (nI cr), .int (nI ho), .int (nI nx), .int (nI ba), .int (nI pl), .int (nI tk), .long rr])), (aw, .inl (cI, 16, .inl wk)), (af, .inl (cI, 16, .inl fl)), (at_, .inl (cI, 16, .inl (upd tt j ((tt j) + 1)))), (asp, .inl (cI, 16, .inl (upd sp j ((sp j) + 1)))), (afa, .inl (cI, 16, .inl fa)), (hp, .inr (0, [.int (nI n), .ref aw, .ref av, .ref az, .ref af]))] H := hP
  have hD : va_D A [(ra, .inr (1, [.ref hp, .ref ah, .ref am, .ref at_, .ref asp, .ref afa, .ref ado, .ref adt, .ref aor, .int (nI cr), .int (nI ho), .int (nI nx), .int (nI ba), .int (nI pl), .int (nI tk), .long rr])), (aw, .inl (cI, 16, .inl wk)), (af, .inl (cI, 16, .inl fl)), (at_, .inl (cI, 16, .inl (upd tt j ((tt j) + 1)))), (asp, .inl (cI, 16, .inl (upd sp j ((sp j) + 1)))), (afa, .inl (cI, 16, .inl fa)), (hp, .inr (0, [.int (nI n), .ref aw, .ref av, .ref az, .ref af]))] := hD
  refine lv_aload_n hx hb zd_Q_spendTick_33 rfl (lv_at hl 0 rfl) ?_
  refine va_get (D := (dC, dI)) (ci := 1) (v := .ref at_) (C := zR_Q) (T := zF_Q) (N := 16) hx hb htz zi_Q hown hK hP 0 rfl rfl 3 (by decide) (htz _ zq_64) (fun _ h9 => h9) rfl zd_Q_spendTick_34 ?_
  refine lv_iload_n hx hb zd_Q_spendTick_37 rfl (lv_at hl 1 rfl) ?_
  refine z_iald hx hb hK hP 3 0 rfl rfl (j := j) (by omega) (by decide) zd_Q_spendTick_38 ?_
  refine z_topi (y := ((tt j) + 1)) pk_us ?_
  refine lv_aload_n hx hb zd_Q_spendTick_39 rfl (lv_at hl 0 rfl) ?_
  refine va_get (D := (dC, dI)) (ci := 1) (v := .ref hp) (C := zR_Q) (T := zF_Q) (N := 16) hx hb htz zi_Q hown hK hP 0 rfl rfl 0 (by decide) (htz _ zq_61) (fun _ h9 => h9) rfl zd_Q_spendTick_40 ?_
  refine lv_iload_n hx hb zd_Q_spendTick_43 rfl (lv_at hl 1 rfl) ?_
  refine z_Vi (As := [.int (nI j)]) (rest := [.int ((tt j) + 1)]) (wc := [(hp, .inr (0, [.int (nI n), .ref aw, .ref av, .ref az, .ref af])), (aw, .inl (cI, 16, .inl wk))]) (wr := [(ra, .inr (1, [.ref hp, .ref ah, .ref am, .ref at_, .ref asp, .ref afa, .ref ado, .ref adt, .ref aor, .int (nI cr), .int (nI ho), .int (nI nx), .int (nI ba), .int (nI pl), .int (nI tk), .long rr])), (af, .inl (cI, 16, .inl fl)), (at_, .inl (cI, 16, .inl (upd tt j ((tt j) + 1)))), (asp, .inl (cI, 16, .inl (upd sp j ((sp j) + 1)))), (afa, .inl (cI, 16, .inl fa))]) ⟨hx, hb, hml, hown, htz⟩ hK hP hD hS hA (k_Plan_workOf_k l dC dI cI cJ cZ hp aw av az af n wk j (by first | assumption | omega) (by first | assumption | omega) H.size) (zcwV 1 htz zq_308 zq_305 zq_306 zq_307 zq_2 (by decide +kernel) ⟨Nat.le_of_ble_eq_true rfl, Nat.le_of_ble_eq_true rfl⟩) 6 0 rfl rfl [6, 1] [0, 2, 3, 4, 5] rfl rfl rfl (by decide) rfl hl.1 rfl (Nat.le_of_ble_eq_true rfl) zd_Q_spendTick_44 ⟨Nat.le_of_ble_eq_true rfl, Nat.le_of_ble_eq_true rfl⟩ (fun r u H locs hw hP hD hS => ?_)
  obtain ⟨rfl, rfl⟩ := hw
  have hP : va_P (dC, dI) zcl [(ra, .inr (1, [.ref hp, .ref ah, .ref am, .ref at_, .ref asp, .ref afa, .ref ado, .ref adt, .ref aor, .int (nI cr), .int (nI ho), .int (nI nx), .int (nI ba), .int (nI pl), .int (nI tk), .long rr])), (af, .inl (cI, 16, .inl fl)), (at_, .inl (cI, 16, .inl (upd tt j ((tt j) + 1)))), (asp, .inl (cI, 16, .inl (upd sp j ((sp j) + 1)))), (afa, .inl (cI, 16, .inl fa)), (hp, .inr (0, [.int (nI n), .ref aw, .ref av, .ref az, .ref af])), (aw, .inl (cI, 16, .inl wk))] H := hP
  have hD : va_D A [(ra, .inr (1, [.ref hp, .ref ah, .ref am, .ref at_, .ref asp, .ref afa, .ref ado, .ref adt, .ref aor, .int (nI cr), .int (nI ho), .int (nI nx), .int (nI ba), .int (nI pl), .int (nI tk), .long rr])), (af, .inl (cI, 16, .inl fl)), (at_, .inl (cI, 16, .inl (upd tt j ((tt j) + 1)))), (asp, .inl (cI, 16, .inl (upd sp j ((sp j) + 1)))), (afa, .inl (cI, 16, .inl fa)), (hp, .inr (0, [.int (nI n), .ref aw, .ref av, .ref az, .ref af])), (aw, .inl (cI, 16, .inl wk))] := hD
  refine lv_icmp_ge (tgt := 52) hx hb zd_Q_spendTick_47 (by decide) (fun c2_ => ?_) (fun c2_ => ?_)
  · have ha9 := z_nlt c2_
    refine lv_aload_n hx hb zd_Q_spendTick_52 rfl (lv_at hl 0 rfl) ?_
    refine va_get (D := (dC, dI)) (ci := 1) (v := .ref at_) (C := zR_Q) (T := zF_Q) (N := 16) hx hb htz zi_Q hown hK hP 0 rfl rfl 3 (by decide) (htz _ zq_64) (fun _ h9 => h9) rfl zd_Q_spendTick_53 ?_
    refine lv_iload_n hx hb zd_Q_spendTick_56 rfl (lv_at hl 1 rfl) ?_
    refine lv_iconst (v := (nI 0)) hx hb zd_Q_spendTick_57 (by decide) ?_
    refine z_iast hx hb hK hP hD hS 2 0 rfl rfl (j := j) (by omega) (by decide) zd_Q_spendTick_58 (fun H locs hP hD hS => ?_)
    have hP : va_P (dC, dI) zcl [(ra, .inr (1, [.ref hp, .ref ah, .ref am, .ref at_, .ref asp, .ref afa, .ref ado, .ref adt, .ref aor, .int (nI cr), .int (nI ho), .int (nI nx), .int (nI ba), .int (nI pl), .int (nI tk), .long rr])), (af, .inl (cI, 16, .inl fl)), (at_, .inl (cI, 16, .inl (upd (upd tt j ((tt j) + 1)) j (nI 0)))), (asp, .inl (cI, 16, .inl (upd sp j ((sp j) + 1)))), (afa, .inl (cI, 16, .inl fa)), (hp, .inr (0, [.int (nI n), .ref aw, .ref av, .ref az, .ref af])), (aw, .inl (cI, 16, .inl wk))] H := hP
    have hD : va_D A [(ra, .inr (1, [.ref hp, .ref ah, .ref am, .ref at_, .ref asp, .ref afa, .ref ado, .ref adt, .ref aor, .int (nI cr), .int (nI ho), .int (nI nx), .int (nI ba), .int (nI pl), .int (nI tk), .long rr])), (af, .inl (cI, 16, .inl fl)), (at_, .inl (cI, 16, .inl (upd (upd tt j ((tt j) + 1)) j (nI 0)))), (asp, .inl (cI, 16, .inl (upd sp j ((sp j) + 1)))), (afa, .inl (cI, 16, .inl fa)), (hp, .inr (0, [.int (nI n), .ref aw, .ref av, .ref az, .ref af])), (aw, .inl (cI, 16, .inl wk))] := hD
    refine lv_aload_n hx hb zd_Q_spendTick_59 rfl (lv_at hl 0 rfl) ?_
    refine va_get (D := (dC, dI)) (ci := 1) (v := .ref afa) (C := zR_Q) (T := zF_Q) (N := 16) hx hb htz zi_Q hown hK hP 0 rfl rfl 5 (by decide) (htz _ zq_66) (fun _ h9 => h9) rfl zd_Q_spendTick_60 ?_
    refine lv_iload_n hx hb zd_Q_spendTick_63 rfl (lv_at hl 1 rfl) ?_
    refine z_iald hx hb hK hP 4 0 rfl rfl (j := j) (by omega) (by decide) zd_Q_spendTick_64 ?_
    refine lv_aload_n hx hb zd_Q_spendTick_65 rfl (lv_at hl 0 rfl) ?_
    refine va_get (D := (dC, dI)) (ci := 1) (v := .ref hp) (C := zR_Q) (T := zF_Q) (N := 16) hx hb htz zi_Q hown hK hP 0 rfl rfl 0 (by decide) (htz _ zq_61) (fun _ h9 => h9) rfl zd_Q_spendTick_66 ?_
    refine lv_iload_n hx hb zd_Q_spendTick_69 rfl (lv_at hl 1 rfl) ?_
    refine z_Vi (As := [.int (nI j)]) (rest := [.int (fa j)]) (wc := [(hp, .inr (0, [.int (nI n), .ref aw, .ref av, .ref az, .ref af])), (af, .inl (cI, 16, .inl fl))]) (wr := [(ra, .inr (1, [.ref hp, .ref ah, .ref am, .ref at_, .ref asp, .ref afa, .ref ado, .ref adt, .ref aor, .int (nI cr), .int (nI ho), .int (nI nx), .int (nI ba), .int (nI pl), .int (nI tk), .long rr])), (at_, .inl (cI, 16, .inl (upd (upd tt j ((tt j) + 1)) j (nI 0)))), (asp, .inl (cI, 16, .inl (upd sp j ((sp j) + 1)))), (afa, .inl (cI, 16, .inl fa)), (aw, .inl (cI, 16, .inl wk))]) ⟨hx, hb, hml, hown, htz⟩ hK hP hD hS hA (k_Plan_faultsOf_k l dC dI cI cJ cZ hp aw av az af n fl j (by first | assumption | omega) (by first | assumption | omega) H.size) (zcwV 1 htz zq_312 zq_309 zq_310 zq_311 zq_2 (by decide +kernel) ⟨Nat.le_of_ble_eq_true rfl, Nat.le_of_ble_eq_true rfl⟩) 5 0 rfl rfl [5, 1] [0, 2, 3, 4, 6] rfl rfl rfl (by decide) rfl hl.1 rfl (Nat.le_of_ble_eq_true rfl) zd_Q_spendTick_70 ⟨Nat.le_of_ble_eq_true rfl, Nat.le_of_ble_eq_true rfl⟩ (fun r u H locs hw hP hD hS => ?_)
    obtain ⟨rfl, rfl⟩ := hw
    have hP : va_P (dC, dI) zcl [(ra, .inr (1, [.ref hp, .ref ah, .ref am, .ref at_, .ref asp, .ref afa, .ref ado, .ref adt, .ref aor, .int (nI cr), .int (nI ho), .int (nI nx), .int (nI ba), .int (nI pl), .int (nI tk), .long rr])), (at_, .inl (cI, 16, .inl (upd (upd tt j ((tt j) + 1)) j (nI 0)))), (asp, .inl (cI, 16, .inl (upd sp j ((sp j) + 1)))), (afa, .inl (cI, 16, .inl fa)), (aw, .inl (cI, 16, .inl wk)), (hp, .inr (0, [.int (nI n), .ref aw, .ref av, .ref az, .ref af])), (af, .inl (cI, 16, .inl fl))] H := hP
    have hD : va_D A [(ra, .inr (1, [.ref hp, .ref ah, .ref am, .ref at_, .ref asp, .ref afa, .ref ado, .ref adt, .ref aor, .int (nI cr), .int (nI ho), .int (nI nx), .int (nI ba), .int (nI pl), .int (nI tk), .long rr])), (at_, .inl (cI, 16, .inl (upd (upd tt j ((tt j) + 1)) j (nI 0)))), (asp, .inl (cI, 16, .inl (upd sp j ((sp j) + 1)))), (afa, .inl (cI, 16, .inl fa)), (aw, .inl (cI, 16, .inl wk)), (hp, .inr (0, [.int (nI n), .ref aw, .ref av, .ref az, .ref af])), (af, .inl (cI, 16, .inl fl))] := hD
    refine lv_icmp_ge (tgt := 88) hx hb zd_Q_spendTick_73 (by decide) (fun c3_ => ?_) (fun c3_ => ?_)
    · have hb9 := z_nlt c3_
      refine lv_iconst (v := (nI 1)) hx hb zd_Q_spendTick_88 (by decide) ?_
      have hP := hP.sub (ws' := [(ra, .inr (1, [.ref hp, .ref ah, .ref am, .ref at_, .ref asp, .ref afa, .ref ado, .ref adt, .ref aor, .int (nI cr), .int (nI ho), .int (nI nx), .int (nI ba), .int (nI pl), .int (nI tk), .long rr])), (hp, .inr (0, [.int (nI n), .ref aw, .ref av, .ref az, .ref af])), (aw, .inl (cI, 16, .inl wk)), (af, .inl (cI, 16, .inl fl)), (at_, .inl (cI, 16, .inl (upd (upd tt j ((tt j) + 1)) j (nI 0)))), (asp, .inl (cI, 16, .inl (upd sp j ((sp j) + 1)))), (afa, .inl (cI, 16, .inl fa))]) [0, 5, 4, 6, 1, 2, 3] rfl
      have hD := hD.sub (ws' := [(ra, .inr (1, [.ref hp, .ref ah, .ref am, .ref at_, .ref asp, .ref afa, .ref ado, .ref adt, .ref aor, .int (nI cr), .int (nI ho), .int (nI nx), .int (nI ba), .int (nI pl), .int (nI tk), .long rr])), (hp, .inr (0, [.int (nI n), .ref aw, .ref av, .ref az, .ref af])), (aw, .inl (cI, 16, .inl wk)), (af, .inl (cI, 16, .inl fl)), (at_, .inl (cI, 16, .inl (upd (upd tt j ((tt j) + 1)) j (nI 0)))), (asp, .inl (cI, 16, .inl (upd sp j ((sp j) + 1)))), (afa, .inl (cI, 16, .inl fa))]) [0, 5, 4, 6, 1, 2, 3] (by decide) rfl
      exact z_zret hx hb hr hlocks hP hK hD hS zd_Q_spendTick_89 (by decide) (by decide) rfl (Or.inr (Or.inr ⟨rfl, rfl, ha9, hb9⟩))
    · have hb9 := z_nle c3_
      refine lv_aload_n hx hb zd_Q_spendTick_76 rfl (lv_at hl 0 rfl) ?_
      refine va_get (D := (dC, dI)) (ci := 1) (v := .ref afa) (C := zR_Q) (T := zF_Q) (N := 16) hx hb htz zi_Q hown hK hP 0 rfl rfl 5 (by decide) (htz _ zq_66) (fun _ h9 => h9) rfl zd_Q_spendTick_77 ?_
      refine lv_iload_n hx hb zd_Q_spendTick_80 rfl (lv_at hl 1 rfl) ?_
      refine lv_dup2_11 hx hb zd_Q_spendTick_81 rfl rfl ?_
      refine z_iald hx hb hK hP 3 0 rfl rfl (j := j) (by omega) (by decide) zd_Q_spendTick_82 ?_
      refine lv_iconst (v := (nI 1)) hx hb zd_Q_spendTick_83 (by decide) ?_
      refine lv_iadd hx hb zd_Q_spendTick_84 ?_
      refine z_topi (y := ((fa j) + 1)) rfl ?_
      refine z_iast hx hb hK hP hD hS 3 0 rfl rfl (j := j) (by omega) (by decide) zd_Q_spendTick_85 (fun H locs hP hD hS => ?_)
      have hP : va_P (dC, dI) zcl [(ra, .inr (1, [.ref hp, .ref ah, .ref am, .ref at_, .ref asp, .ref afa, .ref ado, .ref adt, .ref aor, .int (nI cr), .int (nI ho), .int (nI nx), .int (nI ba), .int (nI pl), .int (nI tk), .long rr])), (at_, .inl (cI, 16, .inl (upd (upd tt j ((tt j) + 1)) j (nI 0)))), (asp, .inl (cI, 16, .inl (upd sp j ((sp j) + 1)))), (afa, .inl (cI, 16, .inl (upd fa j ((fa j) + 1)))), (aw, .inl (cI, 16, .inl wk)), (hp, .inr (0, [.int (nI n), .ref aw, .ref av, .ref az, .ref af])), (af, .inl (cI, 16, .inl fl))] H := hP
      have hD : va_D A [(ra, .inr (1, [.ref hp, .ref ah, .ref am, .ref at_, .ref asp, .ref afa, .ref ado, .ref adt, .ref aor, .int (nI cr), .int (nI ho), .int (nI nx), .int (nI ba), .int (nI pl), .int (nI tk), .long rr])), (at_, .inl (cI, 16, .inl (upd (upd tt j ((tt j) + 1)) j (nI 0)))), (asp, .inl (cI, 16, .inl (upd sp j ((sp j) + 1)))), (afa, .inl (cI, 16, .inl (upd fa j ((fa j) + 1)))), (aw, .inl (cI, 16, .inl wk)), (hp, .inr (0, [.int (nI n), .ref aw, .ref av, .ref az, .ref af])), (af, .inl (cI, 16, .inl fl))] := hD
      refine lv_iconst (v := (nI 0)) hx hb zd_Q_spendTick_86 (by decide) ?_
      have hP := hP.sub (ws' := [(ra, .inr (1, [.ref hp, .ref ah, .ref am, .ref at_, .ref asp, .ref afa, .ref ado, .ref adt, .ref aor, .int (nI cr), .int (nI ho), .int (nI nx), .int (nI ba), .int (nI pl), .int (nI tk), .long rr])), (hp, .inr (0, [.int (nI n), .ref aw, .ref av, .ref az, .ref af])), (aw, .inl (cI, 16, .inl wk)), (af, .inl (cI, 16, .inl fl)), (at_, .inl (cI, 16, .inl (upd (upd tt j ((tt j) + 1)) j (nI 0)))), (asp, .inl (cI, 16, .inl (upd sp j ((sp j) + 1)))), (afa, .inl (cI, 16, .inl (upd fa j ((fa j) + 1))))]) [0, 5, 4, 6, 1, 2, 3] rfl
      have hD := hD.sub (ws' := [(ra, .inr (1, [.ref hp, .ref ah, .ref am, .ref at_, .ref asp, .ref afa, .ref ado, .ref adt, .ref aor, .int (nI cr), .int (nI ho), .int (nI nx), .int (nI ba), .int (nI pl), .int (nI tk), .long rr])), (hp, .inr (0, [.int (nI n), .ref aw, .ref av, .ref az, .ref af])), (aw, .inl (cI, 16, .inl wk)), (af, .inl (cI, 16, .inl fl)), (at_, .inl (cI, 16, .inl (upd (upd tt j ((tt j) + 1)) j (nI 0)))), (asp, .inl (cI, 16, .inl (upd sp j ((sp j) + 1)))), (afa, .inl (cI, 16, .inl (upd fa j ((fa j) + 1))))]) [0, 5, 4, 6, 1, 2, 3] (by decide) rfl
      exact z_zret hx hb hr hlocks hP hK hD hS zd_Q_spendTick_87 (by decide) (by decide) rfl (Or.inr (Or.inl ⟨rfl, rfl, ha9, hb9⟩))
  · have ha9 := z_nle c2_
    refine lv_iconst (v := (nI 0)) hx hb zd_Q_spendTick_50 (by decide) ?_
    have hP := hP.sub (ws' := [(ra, .inr (1, [.ref hp, .ref ah, .ref am, .ref at_, .ref asp, .ref afa, .ref ado, .ref adt, .ref aor, .int (nI cr), .int (nI ho), .int (nI nx), .int (nI ba), .int (nI pl), .int (nI tk), .long rr])), (hp, .inr (0, [.int (nI n), .ref aw, .ref av, .ref az, .ref af])), (aw, .inl (cI, 16, .inl wk)), (af, .inl (cI, 16, .inl fl)), (at_, .inl (cI, 16, .inl (upd tt j ((tt j) + 1)))), (asp, .inl (cI, 16, .inl (upd sp j ((sp j) + 1)))), (afa, .inl (cI, 16, .inl fa))]) [0, 5, 6, 1, 2, 3, 4] rfl
    have hD := hD.sub (ws' := [(ra, .inr (1, [.ref hp, .ref ah, .ref am, .ref at_, .ref asp, .ref afa, .ref ado, .ref adt, .ref aor, .int (nI cr), .int (nI ho), .int (nI nx), .int (nI ba), .int (nI pl), .int (nI tk), .long rr])), (hp, .inr (0, [.int (nI n), .ref aw, .ref av, .ref az, .ref af])), (aw, .inl (cI, 16, .inl wk)), (af, .inl (cI, 16, .inl fl)), (at_, .inl (cI, 16, .inl (upd tt j ((tt j) + 1)))), (asp, .inl (cI, 16, .inl (upd sp j ((sp j) + 1)))), (afa, .inl (cI, 16, .inl fa))]) [0, 5, 6, 1, 2, 3, 4] (by decide) rfl
    exact z_zret hx hb hr hlocks hP hK hD hS zd_Q_spendTick_51 (by decide) (by decide) rfl (Or.inl ⟨rfl, rfl, ha9⟩)
set_option maxHeartbeats 4000000 in
set_option maxRecDepth 100000 in
/--  -/
theorem k_Race_moverBehind_k (l : Launch) (dC : Nat → ClassId) (dI : Nat → Nat → Nat) (cI cJ cZ : ClassId) (ra : Nat) (hp : Nat) (ah : Nat) (am : Nat) (at_ : Nat) (asp : Nat) (afa : Nat) (ado : Nat) (adt : Nat) (aor : Nat) (cr : Nat) (ho : Nat) (nx : Nat) (ba : Nat) (pl : Nat) (tk : Nat) (rr : Int64) (hd : Nat → Int32) (q : Nat) (hc : cr ≤ 16) (hnx : nx ≤ 16) (hba : ba ≤ 16) (hq : ba ≤ nx → q < zcnt hd cr) (sz : Nat) : zMi l zy_Q_moverBehind zw_Q_moverBehind ({ frames := 1, cells := 0, slots := 0, locals := 20 }) [.ref ra, .int (nI q)] (dC, dI) zcl [(cI, .int), (cJ, .long), (cZ, .boolean)] [(ra, .inr (1, [.ref hp, .ref ah, .ref am, .ref at_, .ref asp, .ref afa, .ref ado, .ref adt, .ref aor, .int (nI cr), .int (nI ho), .int (nI nx), .int (nI ba), .int (nI pl), .int (nI tk), .long rr])), (ah, .inl (cI, 16, .inl hd))] sz (fun (r : Int32) (u : va_W) => r = nI (zbh hd cr nx ba q) ∧ u = [(ra, .inr (1, [.ref hp, .ref ah, .ref am, .ref at_, .ref asp, .ref afa, .ref ado, .ref adt, .ref aor, .int (nI cr), .int (nI ho), .int (nI nx), .int (nI ba), .int (nI pl), .int (nI tk), .long rr])), (ah, .inl (cI, 16, .inl hd))]) := by
  refine z_ofi (cc := zc_Q_moverBehind) (maxL := 4) (ret := (some .int)) (by decide) rfl (Nat.le_of_ble_eq_true rfl) ?_
  intro p e s m below meth c A ls hx hb hr hml hown htz hlocks hin hA hP hK hD hS hl
  have hown : s.vm.findClass zR_Q = some m.cls := hown
  have hl : lv_has ls 4 [(0, .ref ra), (1, .int (nI q))] := hl
  refine lv_aload_n hx hb zd_Q_moverBehind_0 rfl (lv_at hl 0 rfl) ?_
  refine z_Vi (As := []) (rest := []) (wc := [(ra, .inr (1, [.ref hp, .ref ah, .ref am, .ref at_, .ref asp, .ref afa, .ref ado, .ref adt, .ref aor, .int (nI cr), .int (nI ho), .int (nI nx), .int (nI ba), .int (nI pl), .int (nI tk), .long rr]))]) (wr := [(ah, .inl (cI, 16, .inl hd))]) ⟨hx, hb, hml, hown, htz⟩ hK hP hD hS hA (k_Race_someShareWaits l dC dI cI cJ cZ ra hp ah am at_ asp afa ado adt aor cr ho nx ba pl tk rr (by first | assumption | omega) (by first | assumption | omega) s.heap.size) (zcwV 0 htz zq_281 zq_278 zq_280 zp_4 zq_5 (by decide +kernel) ⟨Nat.le_of_ble_eq_true rfl, Nat.le_of_ble_eq_true rfl⟩) 0 1 rfl rfl [0] [1] rfl rfl rfl (by decide) rfl hl.1 rfl (Nat.le_of_ble_eq_true rfl) zd_Q_moverBehind_1 ⟨Nat.le_of_ble_eq_true rfl, Nat.le_of_ble_eq_true rfl⟩ (fun r u H locs hw hP hD hS => ?_)
  rcases hw with ⟨rfl, rfl, hw1_⟩ | ⟨rfl, rfl, hw2_⟩
  · have hP : va_P (dC, dI) zcl [(ah, .inl (cI, 16, .inl hd)), (ra, .inr (1, [.ref hp, .ref ah, .ref am, .ref at_, .ref asp, .ref afa, .ref ado, .ref adt, .ref aor, .int (nI cr), .int (nI ho), .int (nI nx), .int (nI ba), .int (nI pl), .int (nI tk), .long rr]))] H := hP
    have hD : va_D A [(ah, .inl (cI, 16, .inl hd)), (ra, .inr (1, [.ref hp, .ref ah, .ref am, .ref at_, .ref asp, .ref afa, .ref ado, .ref adt, .ref aor, .int (nI cr), .int (nI ho), .int (nI nx), .int (nI ba), .int (nI pl), .int (nI tk), .long rr]))] := hD
    have hw9 := hw1_
    refine lv_if_eq (tgt := 9) hx hb zd_Q_moverBehind_4 (by decide) (fun c3_ => absurd c3_ (by decide)) (fun _ => ?_)
    refine lv_iload_n hx hb zd_Q_moverBehind_7 rfl (lv_at hl 1 rfl) ?_
    have hP := hP.sub (ws' := [(ra, .inr (1, [.ref hp, .ref ah, .ref am, .ref at_, .ref asp, .ref afa, .ref ado, .ref adt, .ref aor, .int (nI cr), .int (nI ho), .int (nI nx), .int (nI ba), .int (nI pl), .int (nI tk), .long rr])), (ah, .inl (cI, 16, .inl hd))]) [1, 0] rfl
    have hD := hD.sub (ws' := [(ra, .inr (1, [.ref hp, .ref ah, .ref am, .ref at_, .ref asp, .ref afa, .ref ado, .ref adt, .ref aor, .int (nI cr), .int (nI ho), .int (nI nx), .int (nI ba), .int (nI pl), .int (nI tk), .long rr])), (ah, .inl (cI, 16, .inl hd))]) [1, 0] (by decide) rfl
    exact z_iret hx hb hr hlocks hP hK hD hS zd_Q_moverBehind_8 (by decide) (by decide) ⟨by rw [zbh, if_pos hw9], rfl⟩
  · have hP : va_P (dC, dI) zcl [(ah, .inl (cI, 16, .inl hd)), (ra, .inr (1, [.ref hp, .ref ah, .ref am, .ref at_, .ref asp, .ref afa, .ref ado, .ref adt, .ref aor, .int (nI cr), .int (nI ho), .int (nI nx), .int (nI ba), .int (nI pl), .int (nI tk), .long rr]))] H := hP
    have hD : va_D A [(ah, .inl (cI, 16, .inl hd)), (ra, .inr (1, [.ref hp, .ref ah, .ref am, .ref at_, .ref asp, .ref afa, .ref ado, .ref adt, .ref aor, .int (nI cr), .int (nI ho), .int (nI nx), .int (nI ba), .int (nI pl), .int (nI tk), .long rr]))] := hD
    have hw9 := hw2_
    refine lv_if_eq (tgt := 9) hx hb zd_Q_moverBehind_4 (by decide) (fun _ => ?_) (fun c4_ => absurd (by decide) c4_)
    refine lv_iload_n hx hb zd_Q_moverBehind_9 rfl (lv_at hl 1 rfl) ?_
    refine lv_istore_n (lv' := [(2, .int (nI q)), (0, .ref ra), (1, .int (nI q))]) hx hb zd_Q_moverBehind_10 rfl hl (by decide) rfl (fun ls hl => ?_)
    refine lv_iconst (v := (nI 0)) hx hb zd_Q_moverBehind_11 (by decide) ?_
    refine lv_istore_n (lv' := [(3, .int (nI 0)), (2, .int (nI q)), (0, .ref ra), (1, .int (nI q))]) hx hb zd_Q_moverBehind_12 rfl hl (by decide) rfl (fun ls hl => ?_)
    have lp13 : ∀ (fuel : Nat) (k : Nat) (lf : Nat) (H : Heap) (locs : List Loc) (ls : Array Slot), (k ≤ cr) → (lf + zcnt hd k = q) → cr - k < fuel → va_P (dC, dI) zcl [(ah, .inl (cI, 16, .inl hd)), (ra, .inr (1, [.ref hp, .ref ah, .ref am, .ref at_, .ref asp, .ref afa, .ref ado, .ref adt, .ref aor, .int (nI cr), .int (nI ho), .int (nI nx), .int (nI ba), .int (nI pl), .int (nI tk), .long rr]))] H → va_D A [(ah, .inl (cI, 16, .inl hd)), (ra, .inr (1, [.ref hp, .ref ah, .ref am, .ref at_, .ref asp, .ref afa, .ref ado, .ref adt, .ref aor, .int (nI cr), .int (nI ho), .int (nI nx), .int (nI ba), .int (nI pl), .int (nI tk), .long rr]))] → va_S A s.heap H locs → lv_has ls 4 [(3, .int (nI k)), (2, .int (nI lf)), (0, .ref ra), (1, .int (nI q))] → W p l e ({ frames := 1, cells := 0, slots := 0, locals := 20 } : Room) s m [.ref ra, .int (nI q)].toArray below meth c H locs 0 0 (MQ below (va_Qi (fun (r : Int32) (u : va_W) => r = nI (zbh hd cr nx ba q) ∧ u = [(ra, .inr (1, [.ref hp, .ref ah, .ref am, .ref at_, .ref asp, .ref afa, .ref ado, .ref adt, .ref aor, .int (nI cr), .int (nI ho), .int (nI nx), .int (nI ba), .int (nI pl), .int (nI tk), .long rr])), (ah, .inl (cI, 16, .inl hd))]) (zAt (dC, dI) zcl [(cI, .int), (cJ, .long), (cZ, .boolean)] A) A) [.ref ra, .int (nI q)].toArray s 0 0 A) (F0 m 13 ls []) := by
      intro fuel
      induction fuel with
      | zero => intro k lf H locs ls hk hlf hf; exact absurd hf (Nat.not_lt_zero _)
      | succ fuel ih =>
        intro k lf H locs ls hk hlf hf hP hD hS hl
        refine lv_iload_n hx hb zd_Q_moverBehind_13 rfl (lv_at hl 0 rfl) ?_
        refine lv_aload_n hx hb zd_Q_moverBehind_14 rfl (lv_at hl 2 rfl) ?_
        refine va_get (D := (dC, dI)) (ci := 1) (v := .int (nI cr)) (C := zR_Q) (T := zF_Q) (N := 16) hx hb htz zi_Q hown hK hP 1 rfl rfl 9 (by decide) (htz _ zq_70) (fun _ h9 => h9) rfl zd_Q_moverBehind_15 ?_
        refine lv_icmp_ge (tgt := 46) hx hb zd_Q_moverBehind_18 (by decide) (fun c5_ => ?_) (fun c5_ => ?_)
        · have hk2 : k = cr := Nat.le_antisymm hk (Nat.le_of_not_lt (fun h => nI_ge h (by omega) c5_))
          subst hk2
          have h8 := hq hw9
          omega
        · have hk2 : k < cr := Nat.lt_of_not_le (fun h => c5_ (nI_le h (by omega)))
          refine lv_aload_n hx hb zd_Q_moverBehind_21 rfl (lv_at hl 2 rfl) ?_
          refine va_get (D := (dC, dI)) (ci := 1) (v := .ref ah) (C := zR_Q) (T := zF_Q) (N := 16) hx hb htz zi_Q hown hK hP 1 rfl rfl 1 (by decide) (htz _ zq_62) (fun _ h9 => h9) rfl zd_Q_moverBehind_22 ?_
          refine lv_iload_n hx hb zd_Q_moverBehind_25 rfl (lv_at hl 0 rfl) ?_
          refine z_iald hx hb hK hP 0 0 rfl rfl (j := k) (by omega) (by decide) zd_Q_moverBehind_26 ?_
          refine lv_iconst (v := (-1)) hx hb zd_Q_moverBehind_27 (by decide) ?_
          refine lv_icmp_eq (tgt := 40) hx hb zd_Q_moverBehind_28 (by decide) (fun c6_ => ?_) (fun c6_ => ?_)
          · have hs9 := zcnt_stay (f := hd) c6_
            refine lv_iinc (v := (nI (k + 1))) (lv' := [(3, .int (nI (k + 1))), (2, .int (nI lf)), (0, .ref ra), (1, .int (nI q))]) hx hb zd_Q_moverBehind_40 hl (k := 0) rfl (nI_1 k) (by decide) rfl (fun ls hl => ?_)
            refine lv_goto (tgt := 13) hx hb zd_Q_moverBehind_43 (by decide) ?_
            exact ih (k + 1) lf _ _ _ (by omega) (by omega) (by omega) hP hD hS hl
          · have hne := c6_
            have hs9 := zcnt_step (f := hd) c6_
            refine lv_iload_n hx hb zd_Q_moverBehind_31 rfl (lv_at hl 1 rfl) ?_
            refine lv_if_ne (tgt := 37) hx hb zd_Q_moverBehind_32 (by decide) (fun c7_ => ?_) (fun c7_ => ?_)
            · have hl0 : 0 < lf := Nat.pos_of_ne_zero (fun h => c7_ (by rw [h]; rfl))
              refine lv_iinc (v := (nI (lf - 1))) (lv' := [(2, .int (nI (lf - 1))), (3, .int (nI k)), (0, .ref ra), (1, .int (nI q))]) hx hb zd_Q_moverBehind_37 hl (k := 1) rfl (sb_m1 hl0) (by decide) rfl (fun ls hl => ?_)
              refine lv_iinc (v := (nI (k + 1))) (lv' := [(3, .int (nI (k + 1))), (2, .int (nI (lf - 1))), (0, .ref ra), (1, .int (nI q))]) hx hb zd_Q_moverBehind_40 hl (k := 1) rfl (nI_1 k) (by decide) rfl (fun ls hl => ?_)
              refine lv_goto (tgt := 13) hx hb zd_Q_moverBehind_43 (by decide) ?_
              exact ih (k + 1) (lf - 1) _ _ _ (by omega) (by omega) (by omega) hP hD hS hl
            · have hl0 : lf = 0 := (nI_eq (b := 0) (by have := zcnt_le hd cr; have := zcnt_le hd k; have h8 := hq hw9; omega) (by decide)).mp c7_
              refine lv_iload_n hx hb zd_Q_moverBehind_35 rfl (lv_at hl 0 rfl) ?_
              have hP := hP.sub (ws' := [(ra, .inr (1, [.ref hp, .ref ah, .ref am, .ref at_, .ref asp, .ref afa, .ref ado, .ref adt, .ref aor, .int (nI cr), .int (nI ho), .int (nI nx), .int (nI ba), .int (nI pl), .int (nI tk), .long rr])), (ah, .inl (cI, 16, .inl hd))]) [1, 0] rfl
              have hD := hD.sub (ws' := [(ra, .inr (1, [.ref hp, .ref ah, .ref am, .ref at_, .ref asp, .ref afa, .ref ado, .ref adt, .ref aor, .int (nI cr), .int (nI ho), .int (nI nx), .int (nI ba), .int (nI pl), .int (nI tk), .long rr])), (ah, .inl (cI, 16, .inl hd))]) [1, 0] (by decide) rfl
              exact z_iret hx hb hr hlocks hP hK hD hS zd_Q_moverBehind_36 (by decide) (by decide) ⟨by rw [zbh, if_neg (Nat.not_lt.mpr hw9), zth_is hk2 hne (by omega)], rfl⟩
    exact lp13 _ 0 q _ _ _ (Nat.zero_le _) rfl (Nat.lt_succ_self _) hP hD hS hl
set_option maxHeartbeats 4000000 in
set_option maxRecDepth 100000 in
/--  -/
theorem k_Race_dropBehind_k (l : Launch) (dC : Nat → ClassId) (dI : Nat → Nat → Nat) (cI cJ cZ : ClassId) (ra : Nat) (hp : Nat) (ah : Nat) (am : Nat) (at_ : Nat) (asp : Nat) (afa : Nat) (ado : Nat) (adt : Nat) (aor : Nat) (cr : Nat) (ho : Nat) (nx : Nat) (ba : Nat) (pl : Nat) (tk : Nat) (rr : Int64) (hd : Nat → Int32) (j : Nat) (hc : cr ≤ 16) (hh : ho = zcnt hd cr) (sz : Nat) : zMv l zy_Q_dropBehind zw_Q_dropBehind ({ frames := 2, cells := 0, slots := 0, locals := 42 }) [.ref ra, .int (nI j)] (dC, dI) zcl [(cI, .int), (cJ, .long), (cZ, .boolean)] [(ra, .inr (1, [.ref hp, .ref ah, .ref am, .ref at_, .ref asp, .ref afa, .ref ado, .ref adt, .ref aor, .int (nI cr), .int (nI ho), .int (nI nx), .int (nI ba), .int (nI pl), .int (nI tk), .long rr])), (ah, .inl (cI, 16, .inl hd))] sz (fun (u : va_W) => ∃ (h2 : Nat), u = [(ra, .inr (1, [.ref hp, .ref ah, .ref am, .ref at_, .ref asp, .ref afa, .ref ado, .ref adt, .ref aor, .int (nI cr), .int (nI h2), .int (nI nx), .int (nI ba), .int (nI pl), .int (nI tk), .long rr])), (ah, .inl (cI, 16, .inl (zdrop hd cr j)))] ∧ h2 = zcnt (zdrop hd cr j) cr) := by
  refine z_ofv (cc := zc_Q_dropBehind) (maxL := 3) (ret := none) (by decide) rfl (Nat.le_of_ble_eq_true rfl) ?_
  intro p e s m below meth c A ls hx hb hr hml hown htz hlocks hin hA hP hK hD hS hl
  have hown : s.vm.findClass zR_Q = some m.cls := hown
  have hl : lv_has ls 3 [(0, .ref ra), (1, .int (nI j))] := hl
  refine lv_iconst (v := (nI 0)) hx hb zd_Q_dropBehind_0 (by decide) ?_
  refine lv_istore_n (lv' := [(2, .int (nI 0)), (0, .ref ra), (1, .int (nI j))]) hx hb zd_Q_dropBehind_1 rfl hl (by decide) rfl (fun ls hl => ?_)
  have lp2 : ∀ (fuel : Nat) (k : Nat) (o9 : Nat) (H : Heap) (locs : List Loc) (ls : Array Slot), (k ≤ cr) → (o9 = zcnt (zdrop hd k j) cr) → cr - k < fuel → va_P (dC, dI) zcl [(ra, .inr (1, [.ref hp, .ref ah, .ref am, .ref at_, .ref asp, .ref afa, .ref ado, .ref adt, .ref aor, .int (nI cr), .int (nI o9), .int (nI nx), .int (nI ba), .int (nI pl), .int (nI tk), .long rr])), (ah, .inl (cI, 16, .inl (zdrop hd k j)))] H → va_D A [(ra, .inr (1, [.ref hp, .ref ah, .ref am, .ref at_, .ref asp, .ref afa, .ref ado, .ref adt, .ref aor, .int (nI cr), .int (nI o9), .int (nI nx), .int (nI ba), .int (nI pl), .int (nI tk), .long rr])), (ah, .inl (cI, 16, .inl (zdrop hd k j)))] → va_S A s.heap H locs → lv_has ls 3 [(2, .int (nI k)), (0, .ref ra), (1, .int (nI j))] → W p l e ({ frames := 2, cells := 0, slots := 0, locals := 42 } : Room) s m [.ref ra, .int (nI j)].toArray below meth c H locs 0 0 (MQ below (va_Qv (fun (u : va_W) => ∃ (h2 : Nat), u = [(ra, .inr (1, [.ref hp, .ref ah, .ref am, .ref at_, .ref asp, .ref afa, .ref ado, .ref adt, .ref aor, .int (nI cr), .int (nI h2), .int (nI nx), .int (nI ba), .int (nI pl), .int (nI tk), .long rr])), (ah, .inl (cI, 16, .inl (zdrop hd cr j)))] ∧ h2 = zcnt (zdrop hd cr j) cr) (zAt (dC, dI) zcl [(cI, .int), (cJ, .long), (cZ, .boolean)] A) A) [.ref ra, .int (nI j)].toArray s 0 0 A) (F0 m 2 ls []) := by
    intro fuel
    induction fuel with
    | zero => intro k o9 H locs ls hk ho9 hf; exact absurd hf (Nat.not_lt_zero _)
    | succ fuel ih =>
      intro k o9 H locs ls hk ho9 hf hP hD hS hl
      refine lv_iload_n hx hb zd_Q_dropBehind_2 rfl (lv_at hl 0 rfl) ?_
      refine lv_aload_n hx hb zd_Q_dropBehind_3 rfl (lv_at hl 1 rfl) ?_
      refine va_get (D := (dC, dI)) (ci := 1) (v := .int (nI cr)) (C := zR_Q) (T := zF_Q) (N := 16) hx hb htz zi_Q hown hK hP 0 rfl rfl 9 (by decide) (htz _ zq_70) (fun _ h9 => h9) rfl zd_Q_dropBehind_4 ?_
      refine lv_icmp_ge (tgt := 31) hx hb zd_Q_dropBehind_7 (by decide) (fun c1_ => ?_) (fun c1_ => ?_)
      · have hk2 : k = cr := Nat.le_antisymm hk (Nat.le_of_not_lt (fun h => nI_ge h (by omega) c1_))
        subst hk2
        exact z_vret hx hb hr hlocks hP hK hD hS zd_Q_dropBehind_31 (by decide) (by decide) ⟨o9, rfl, ho9⟩
      · have hk2 : k < cr := Nat.lt_of_not_le (fun h => c1_ (nI_le h (by omega)))
        refine lv_aload_n hx hb zd_Q_dropBehind_10 rfl (lv_at hl 1 rfl) ?_
        refine va_get (D := (dC, dI)) (ci := 1) (v := .ref ah) (C := zR_Q) (T := zF_Q) (N := 16) hx hb htz zi_Q hown hK hP 0 rfl rfl 1 (by decide) (htz _ zq_62) (fun _ h9 => h9) rfl zd_Q_dropBehind_11 ?_
        refine lv_iload_n hx hb zd_Q_dropBehind_14 rfl (lv_at hl 0 rfl) ?_
        refine z_iald hx hb hK hP 1 0 rfl rfl (j := k) (by omega) (by decide) zd_Q_dropBehind_15 ?_
        refine lv_iload_n hx hb zd_Q_dropBehind_16 rfl (lv_at hl 2 rfl) ?_
        refine lv_icmp_le (tgt := 25) hx hb zd_Q_dropBehind_17 (by decide) (fun c2_ => ?_) (fun c2_ => ?_)
        · have hst := zdrop_stay (hd := hd) (k := k) (j := j) (z_nlt c2_)
          rw [← hst] at hP hD
          have hP : va_P (dC, dI) zcl [(ra, .inr (1, [.ref hp, .ref ah, .ref am, .ref at_, .ref asp, .ref afa, .ref ado, .ref adt, .ref aor, .int (nI cr), .int (nI o9), .int (nI nx), .int (nI ba), .int (nI pl), .int (nI tk), .long rr])), (ah, .inl (cI, 16, .inl (zdrop hd (k + 1) j)))] H := hP
          have hD : va_D A [(ra, .inr (1, [.ref hp, .ref ah, .ref am, .ref at_, .ref asp, .ref afa, .ref ado, .ref adt, .ref aor, .int (nI cr), .int (nI o9), .int (nI nx), .int (nI ba), .int (nI pl), .int (nI tk), .long rr])), (ah, .inl (cI, 16, .inl (zdrop hd (k + 1) j)))] := hD
          refine lv_iinc (v := (nI (k + 1))) (lv' := [(2, .int (nI (k + 1))), (0, .ref ra), (1, .int (nI j))]) hx hb zd_Q_dropBehind_25 hl (k := 0) rfl (nI_1 k) (by decide) rfl (fun ls hl => ?_)
          refine lv_goto (tgt := 2) hx hb zd_Q_dropBehind_28 (by decide) ?_
          exact ih (k + 1) o9 _ _ _ (by omega) (by rw [hst]; assumption) (by omega) hP hD hS hl
        · have hst := zdrop_step (hd := hd) (k := k) (j := j) (z_nle c2_)
          refine lv_aload_n hx hb zd_Q_dropBehind_20 rfl (lv_at hl 1 rfl) ?_
          refine lv_iload_n hx hb zd_Q_dropBehind_21 rfl (lv_at hl 0 rfl) ?_
          refine z_Vv (As := [.int (nI k)]) (rest := []) (wc := [(ra, .inr (1, [.ref hp, .ref ah, .ref am, .ref at_, .ref asp, .ref afa, .ref ado, .ref adt, .ref aor, .int (nI cr), .int (nI o9), .int (nI nx), .int (nI ba), .int (nI pl), .int (nI tk), .long rr])), (ah, .inl (cI, 16, .inl (zdrop hd k j)))]) (wr := []) ⟨hx, hb, hml, hown, htz⟩ hK hP hD hS hA (k_Race_letGo_k l dC dI cI cJ cZ ra hp ah am at_ asp afa ado adt aor cr o9 nx ba pl tk rr (zdrop hd k j) k (by first | assumption | omega) (by first | assumption | omega) (by first | assumption | omega) H.size) (zcwV 1 htz zq_320 zq_317 zq_319 zp_10 zq_5 (by decide +kernel) ⟨Nat.le_of_ble_eq_true rfl, Nat.le_of_ble_eq_true rfl⟩) 0 1 rfl rfl [0, 1] [] rfl rfl rfl (by decide) rfl hl.1 rfl (Nat.le_of_ble_eq_true rfl) zd_Q_dropBehind_22 ⟨Nat.le_of_ble_eq_true rfl, Nat.le_of_ble_eq_true rfl⟩ (fun u H locs hw hP hD hS => ?_)
          obtain ⟨h23_, h94_, rfl, hh5_, hk6_⟩ := hw
          have hP : va_P (dC, dI) zcl [(ra, .inr (1, [.ref hp, .ref ah, .ref am, .ref at_, .ref asp, .ref afa, .ref ado, .ref adt, .ref aor, .int (nI cr), .int (nI h23_), .int (nI nx), .int (nI ba), .int (nI pl), .int (nI tk), .long rr])), (ah, .inl (cI, 16, .inl h94_))] H := hP
          have hD : va_D A [(ra, .inr (1, [.ref hp, .ref ah, .ref am, .ref at_, .ref asp, .ref afa, .ref ado, .ref adt, .ref aor, .int (nI cr), .int (nI h23_), .int (nI nx), .int (nI ba), .int (nI pl), .int (nI tk), .long rr])), (ah, .inl (cI, 16, .inl h94_))] := hD
          obtain rfl := hh5_
          rw [← hst] at hP hD
          have hP : va_P (dC, dI) zcl [(ra, .inr (1, [.ref hp, .ref ah, .ref am, .ref at_, .ref asp, .ref afa, .ref ado, .ref adt, .ref aor, .int (nI cr), .int (nI h23_), .int (nI nx), .int (nI ba), .int (nI pl), .int (nI tk), .long rr])), (ah, .inl (cI, 16, .inl (zdrop hd (k + 1) j)))] H := hP
          have hD : va_D A [(ra, .inr (1, [.ref hp, .ref ah, .ref am, .ref at_, .ref asp, .ref afa, .ref ado, .ref adt, .ref aor, .int (nI cr), .int (nI h23_), .int (nI nx), .int (nI ba), .int (nI pl), .int (nI tk), .long rr])), (ah, .inl (cI, 16, .inl (zdrop hd (k + 1) j)))] := hD
          refine lv_iinc (v := (nI (k + 1))) (lv' := [(2, .int (nI (k + 1))), (0, .ref ra), (1, .int (nI j))]) hx hb zd_Q_dropBehind_25 hl (k := 0) rfl (nI_1 k) (by decide) rfl (fun ls hl => ?_)
          refine lv_goto (tgt := 2) hx hb zd_Q_dropBehind_28 (by decide) ?_
          exact ih (k + 1) h23_ _ _ _ (by omega) (by rw [hst]; assumption) (by omega) hP hD hS hl
  exact lp2 _ 0 ho _ _ _ (Nat.zero_le _) (by rw [zdrop_0]; exact hh) (Nat.lt_succ_self _) hP hD hS hl
end
section
set_option maxHeartbeats 4000000 in
set_option maxRecDepth 100000 in
/--  -/
theorem k_Race_finish_k (l : Launch) (dC : Nat → ClassId) (dI : Nat → Nat → Nat) (cI cJ cZ : ClassId) (ra : Nat) (hp : Nat) (ah : Nat) (am : Nat) (at_ : Nat) (asp : Nat) (afa : Nat) (ado : Nat) (adt : Nat) (aor : Nat) (cr : Nat) (ho : Nat) (nx : Nat) (ba : Nat) (pl : Nat) (tk : Nat) (rr : Int64) (aw : Nat) (av : Nat) (az : Nat) (af : Nat) (n : Nat) (se : Nat → Int32) (hd : Nat → Int32) (dr : Nat → Int32) (dt : Nat → Int32) (od : Nat → Int32) (j : Nat) (w : Nat) (hn : n ≤ 16) (hj : j < n) (hc : cr ≤ 16) (hw : w < cr) (hpl : pl < 16) (hh : ho = zcnt hd cr) (sz : Nat) : zMv l zy_Q_finish zw_Q_finish ({ frames := 3, cells := 0, slots := 0, locals := 64 }) [.ref ra, .int (nI j), .int (nI w)] (dC, dI) zcl [(cI, .int), (cJ, .long), (cZ, .boolean)] [(ra, .inr (1, [.ref hp, .ref ah, .ref am, .ref at_, .ref asp, .ref afa, .ref ado, .ref adt, .ref aor, .int (nI cr), .int (nI ho), .int (nI nx), .int (nI ba), .int (nI pl), .int (nI tk), .long rr])), (hp, .inr (0, [.int (nI n), .ref aw, .ref av, .ref az, .ref af])), (az, .inl (cZ, 16, .inl se)), (ah, .inl (cI, 16, .inl hd)), (ado, .inl (cI, 16, .inl dr)), (adt, .inl (cI, 16, .inl dt)), (aor, .inl (cI, 16, .inl od))] sz (fun (u : va_W) => (∃ (h2 : Nat), u = [(ra, .inr (1, [.ref hp, .ref ah, .ref am, .ref at_, .ref asp, .ref afa, .ref ado, .ref adt, .ref aor, .int (nI cr), .int (nI h2), .int (nI nx), .int (nI ba), .int (nI (pl + 1)), .int (nI tk), .long rr])), (hp, .inr (0, [.int (nI n), .ref aw, .ref av, .ref az, .ref af])), (az, .inl (cZ, 16, .inl se)), (ah, .inl (cI, 16, .inl (upd hd w (-1)))), (ado, .inl (cI, 16, .inl (upd dr j (nI w)))), (adt, .inl (cI, 16, .inl (upd dt j (nI tk)))), (aor, .inl (cI, 16, .inl (upd od pl (nI j))))] ∧ h2 = zcnt (upd hd w (-1)) cr ∧ se j = 0) ∨ (∃ (h2 : Nat), u = [(ra, .inr (1, [.ref hp, .ref ah, .ref am, .ref at_, .ref asp, .ref afa, .ref ado, .ref adt, .ref aor, .int (nI cr), .int (nI h2), .int (nI nx), .int (nI j), .int (nI (pl + 1)), .int (nI tk), .long rr])), (hp, .inr (0, [.int (nI n), .ref aw, .ref av, .ref az, .ref af])), (az, .inl (cZ, 16, .inl se)), (ah, .inl (cI, 16, .inl (zdrop (upd hd w (-1)) cr j))), (ado, .inl (cI, 16, .inl (upd dr j (nI w)))), (adt, .inl (cI, 16, .inl (upd dt j (nI tk)))), (aor, .inl (cI, 16, .inl (upd od pl (nI j))))] ∧ h2 = zcnt (zdrop (upd hd w (-1)) cr j) cr ∧ ¬ se j = 0)) := by
  refine z_ofv (cc := zc_Q_finish) (maxL := 3) (ret := none) (by decide) rfl (Nat.le_of_ble_eq_true rfl) ?_
  intro p e s m below meth c A ls hx hb hr hml hown htz hlocks hin hA hP hK hD hS hl
  have hown : s.vm.findClass zR_Q = some m.cls := hown
  have hl : lv_has ls 3 [(0, .ref ra), (1, .int (nI j)), (2, .int (nI w))] := hl
  refine lv_aload_n hx hb zd_Q_finish_0 rfl (lv_at hl 0 rfl) ?_
  refine va_get (D := (dC, dI)) (ci := 1) (v := .ref hp) (C := zR_Q) (T := zF_Q) (N := 16) hx hb htz zi_Q hown hK hP 0 rfl rfl 0 (by decide) (htz _ zq_61) (fun _ h9 => h9) rfl zd_Q_finish_1 ?_
  refine lv_iload_n hx hb zd_Q_finish_4 rfl (lv_at hl 1 rfl) ?_
  refine z_Vi (As := [.int (nI j)]) (rest := []) (wc := [(hp, .inr (0, [.int (nI n), .ref aw, .ref av, .ref az, .ref af]))]) (wr := [(ra, .inr (1, [.ref hp, .ref ah, .ref am, .ref at_, .ref asp, .ref afa, .ref ado, .ref adt, .ref aor, .int (nI cr), .int (nI ho), .int (nI nx), .int (nI ba), .int (nI pl), .int (nI tk), .long rr])), (az, .inl (cZ, 16, .inl se)), (ah, .inl (cI, 16, .inl hd)), (ado, .inl (cI, 16, .inl dr)), (adt, .inl (cI, 16, .inl dt)), (aor, .inl (cI, 16, .inl od))]) ⟨hx, hb, hml, hown, htz⟩ hK hP hD hS hA (k_Plan_has_k l dC dI cI cJ cZ hp aw av az af n j (by first | assumption | omega) (by first | assumption | omega) s.heap.size) (zcwV 1 htz zq_147 zq_304 zq_145 zq_146 zq_2 (by decide +kernel) ⟨Nat.le_of_ble_eq_true rfl, Nat.le_of_ble_eq_true rfl⟩) 1 0 rfl rfl [1] [0, 2, 3, 4, 5, 6] rfl rfl rfl (by decide) rfl hl.1 rfl (Nat.le_of_ble_eq_true rfl) zd_Q_finish_5 ⟨Nat.le_of_ble_eq_true rfl, Nat.le_of_ble_eq_true rfl⟩ (fun r u H locs hw hP hD hS => ?_)
  obtain ⟨rfl, rfl⟩ := hw
  have hP : va_P (dC, dI) zcl [(ra, .inr (1, [.ref hp, .ref ah, .ref am, .ref at_, .ref asp, .ref afa, .ref ado, .ref adt, .ref aor, .int (nI cr), .int (nI ho), .int (nI nx), .int (nI ba), .int (nI pl), .int (nI tk), .long rr])), (az, .inl (cZ, 16, .inl se)), (ah, .inl (cI, 16, .inl hd)), (ado, .inl (cI, 16, .inl dr)), (adt, .inl (cI, 16, .inl dt)), (aor, .inl (cI, 16, .inl od)), (hp, .inr (0, [.int (nI n), .ref aw, .ref av, .ref az, .ref af]))] H := hP
  have hD : va_D A [(ra, .inr (1, [.ref hp, .ref ah, .ref am, .ref at_, .ref asp, .ref afa, .ref ado, .ref adt, .ref aor, .int (nI cr), .int (nI ho), .int (nI nx), .int (nI ba), .int (nI pl), .int (nI tk), .long rr])), (az, .inl (cZ, 16, .inl se)), (ah, .inl (cI, 16, .inl hd)), (ado, .inl (cI, 16, .inl dr)), (adt, .inl (cI, 16, .inl dt)), (aor, .inl (cI, 16, .inl od)), (hp, .inr (0, [.int (nI n), .ref aw, .ref av, .ref az, .ref af]))] := hD
  refine lv_if_eq (tgt := 23) hx hb zd_Q_finish_8 (by decide) (fun c1_ => absurd c1_ (by decide)) (fun _ => ?_)
  refine lv_aload_n hx hb zd_Q_finish_11 rfl (lv_at hl 0 rfl) ?_
  refine va_get (D := (dC, dI)) (ci := 1) (v := .int (nI pl)) (C := zR_Q) (T := zF_Q) (N := 16) hx hb htz zi_Q hown hK hP 0 rfl rfl 13 (by decide) (htz _ zq_74) (fun _ h9 => h9) rfl zd_Q_finish_12 ?_
  refine lv_aload_n hx hb zd_Q_finish_15 rfl (lv_at hl 0 rfl) ?_
  refine va_get (D := (dC, dI)) (ci := 1) (v := .ref aor) (C := zR_Q) (T := zF_Q) (N := 16) hx hb htz zi_Q hown hK hP 0 rfl rfl 8 (by decide) (htz _ zq_69) (fun _ h9 => h9) rfl zd_Q_finish_16 ?_
  refine va_alen (v := nI 16) hx hb hK hP 5 0 rfl rfl rfl zd_Q_finish_19 ?_
  refine lv_icmp_lt (tgt := 24) hx hb zd_Q_finish_20 (by decide) (fun c2_ => ?_) (fun c2_ => absurd (nI_lt hpl (by decide)) c2_)
  refine lv_aload_n hx hb zd_Q_finish_24 rfl (lv_at hl 0 rfl) ?_
  refine va_get (D := (dC, dI)) (ci := 1) (v := .ref aor) (C := zR_Q) (T := zF_Q) (N := 16) hx hb htz zi_Q hown hK hP 0 rfl rfl 8 (by decide) (htz _ zq_69) (fun _ h9 => h9) rfl zd_Q_finish_25 ?_
  refine lv_aload_n hx hb zd_Q_finish_28 rfl (lv_at hl 0 rfl) ?_
  refine va_get (D := (dC, dI)) (ci := 1) (v := .int (nI pl)) (C := zR_Q) (T := zF_Q) (N := 16) hx hb htz zi_Q hown hK hP 0 rfl rfl 13 (by decide) (htz _ zq_74) (fun _ h9 => h9) rfl zd_Q_finish_29 ?_
  refine lv_iload_n hx hb zd_Q_finish_32 rfl (lv_at hl 1 rfl) ?_
  refine z_iast hx hb hK hP hD hS 5 0 rfl rfl (j := pl) (by omega) (by decide) zd_Q_finish_33 (fun H locs hP hD hS => ?_)
  have hP : va_P (dC, dI) zcl [(ra, .inr (1, [.ref hp, .ref ah, .ref am, .ref at_, .ref asp, .ref afa, .ref ado, .ref adt, .ref aor, .int (nI cr), .int (nI ho), .int (nI nx), .int (nI ba), .int (nI pl), .int (nI tk), .long rr])), (az, .inl (cZ, 16, .inl se)), (ah, .inl (cI, 16, .inl hd)), (ado, .inl (cI, 16, .inl dr)), (adt, .inl (cI, 16, .inl dt)), (aor, .inl (cI, 16, .inl (upd od pl (nI j)))), (hp, .inr (0, [.int (nI n), .ref aw, .ref av, .ref az, .ref af]))] H := hP
  have hD : va_D A [(ra, .inr (1, [.ref hp, .ref ah, .ref am, .ref at_, .ref asp, .ref afa, .ref ado, .ref adt, .ref aor, .int (nI cr), .int (nI ho), .int (nI nx), .int (nI ba), .int (nI pl), .int (nI tk), .long rr])), (az, .inl (cZ, 16, .inl se)), (ah, .inl (cI, 16, .inl hd)), (ado, .inl (cI, 16, .inl dr)), (adt, .inl (cI, 16, .inl dt)), (aor, .inl (cI, 16, .inl (upd od pl (nI j)))), (hp, .inr (0, [.int (nI n), .ref aw, .ref av, .ref az, .ref af]))] := hD
  refine lv_aload_n hx hb zd_Q_finish_34 rfl (lv_at hl 0 rfl) ?_
  refine lv_dup hx hb zd_Q_finish_35 rfl ?_
  refine va_get (D := (dC, dI)) (ci := 1) (v := .int (nI pl)) (C := zR_Q) (T := zF_Q) (N := 16) hx hb htz zi_Q hown hK hP 0 rfl rfl 13 (by decide) (htz _ zq_74) (fun _ h9 => h9) rfl zd_Q_finish_36 ?_
  refine lv_iconst (v := (nI 1)) hx hb zd_Q_finish_39 (by decide) ?_
  refine lv_iadd hx hb zd_Q_finish_40 ?_
  refine z_topi (y := (nI (pl + 1))) (nI_add pl 1) ?_
  refine va_put (D := (dC, dI)) (ci := 1) (v := .int (nI (pl + 1))) (ty := .int) (C := zR_Q) (T := zF_Q) (N := 16) hx hb htz zi_Q zt_Q zt_Q_ok zn_Q hown hK hP hD hS 0 rfl rfl 13 (by decide) (htz _ zq_74) (fun _ h9 => h9) rfl (by decide +kernel) rfl rfl (Nat.le_of_ble_eq_true rfl) zd_Q_finish_41 (fun H locs hP hD hS => ?_)
  have hP : va_P (dC, dI) zcl [(ra, .inr (1, [.ref hp, .ref ah, .ref am, .ref at_, .ref asp, .ref afa, .ref ado, .ref adt, .ref aor, .int (nI cr), .int (nI ho), .int (nI nx), .int (nI ba), .int (nI (pl + 1)), .int (nI tk), .long rr])), (az, .inl (cZ, 16, .inl se)), (ah, .inl (cI, 16, .inl hd)), (ado, .inl (cI, 16, .inl dr)), (adt, .inl (cI, 16, .inl dt)), (aor, .inl (cI, 16, .inl (upd od pl (nI j)))), (hp, .inr (0, [.int (nI n), .ref aw, .ref av, .ref az, .ref af]))] H := hP
  have hD : va_D A [(ra, .inr (1, [.ref hp, .ref ah, .ref am, .ref at_, .ref asp, .ref afa, .ref ado, .ref adt, .ref aor, .int (nI cr), .int (nI ho), .int (nI nx), .int (nI ba), .int (nI (pl + 1)), .int (nI tk), .long rr])), (az, .inl (cZ, 16, .inl se)), (ah, .inl (cI, 16, .inl hd)), (ado, .inl (cI, 16, .inl dr)), (adt, .inl (cI, 16, .inl dt)), (aor, .inl (cI, 16, .inl (upd od pl (nI j)))), (hp, .inr (0, [.int (nI n), .ref aw, .ref av, .ref az, .ref af]))] := hD
  refine lv_aload_n hx hb zd_Q_finish_44 rfl (lv_at hl 0 rfl) ?_
  refine va_get (D := (dC, dI)) (ci := 1) (v := .ref ado) (C := zR_Q) (T := zF_Q) (N := 16) hx hb htz zi_Q hown hK hP 0 rfl rfl 6 (by decide) (htz _ zq_67) (fun _ h9 => h9) rfl zd_Q_finish_45 ?_
  refine lv_iload_n hx hb zd_Q_finish_48 rfl (lv_at hl 1 rfl) ?_
  refine lv_iload_n hx hb zd_Q_finish_49 rfl (lv_at hl 2 rfl) ?_
  refine z_iast hx hb hK hP hD hS 3 0 rfl rfl (j := j) (by omega) (by decide) zd_Q_finish_50 (fun H locs hP hD hS => ?_)
  have hP : va_P (dC, dI) zcl [(ra, .inr (1, [.ref hp, .ref ah, .ref am, .ref at_, .ref asp, .ref afa, .ref ado, .ref adt, .ref aor, .int (nI cr), .int (nI ho), .int (nI nx), .int (nI ba), .int (nI (pl + 1)), .int (nI tk), .long rr])), (az, .inl (cZ, 16, .inl se)), (ah, .inl (cI, 16, .inl hd)), (ado, .inl (cI, 16, .inl (upd dr j (nI w)))), (adt, .inl (cI, 16, .inl dt)), (aor, .inl (cI, 16, .inl (upd od pl (nI j)))), (hp, .inr (0, [.int (nI n), .ref aw, .ref av, .ref az, .ref af]))] H := hP
  have hD : va_D A [(ra, .inr (1, [.ref hp, .ref ah, .ref am, .ref at_, .ref asp, .ref afa, .ref ado, .ref adt, .ref aor, .int (nI cr), .int (nI ho), .int (nI nx), .int (nI ba), .int (nI (pl + 1)), .int (nI tk), .long rr])), (az, .inl (cZ, 16, .inl se)), (ah, .inl (cI, 16, .inl hd)), (ado, .inl (cI, 16, .inl (upd dr j (nI w)))), (adt, .inl (cI, 16, .inl dt)), (aor, .inl (cI, 16, .inl (upd od pl (nI j)))), (hp, .inr (0, [.int (nI n), .ref aw, .ref av, .ref az, .ref af]))] := hD
  refine lv_aload_n hx hb zd_Q_finish_51 rfl (lv_at hl 0 rfl) ?_
  refine va_get (D := (dC, dI)) (ci := 1) (v := .ref adt) (C := zR_Q) (T := zF_Q) (N := 16) hx hb htz zi_Q hown hK hP 0 rfl rfl 7 (by decide) (htz _ zq_68) (fun _ h9 => h9) rfl zd_Q_finish_52 ?_
  refine lv_iload_n hx hb zd_Q_finish_55 rfl (lv_at hl 1 rfl) ?_
  refine lv_aload_n hx hb zd_Q_finish_56 rfl (lv_at hl 0 rfl) ?_
  refine va_get (D := (dC, dI)) (ci := 1) (v := .int (nI tk)) (C := zR_Q) (T := zF_Q) (N := 16) hx hb htz zi_Q hown hK hP 0 rfl rfl 14 (by decide) (htz _ zq_75) (fun _ h9 => h9) rfl zd_Q_finish_57 ?_
  refine z_iast hx hb hK hP hD hS 4 0 rfl rfl (j := j) (by omega) (by decide) zd_Q_finish_60 (fun H locs hP hD hS => ?_)
  have hP : va_P (dC, dI) zcl [(ra, .inr (1, [.ref hp, .ref ah, .ref am, .ref at_, .ref asp, .ref afa, .ref ado, .ref adt, .ref aor, .int (nI cr), .int (nI ho), .int (nI nx), .int (nI ba), .int (nI (pl + 1)), .int (nI tk), .long rr])), (az, .inl (cZ, 16, .inl se)), (ah, .inl (cI, 16, .inl hd)), (ado, .inl (cI, 16, .inl (upd dr j (nI w)))), (adt, .inl (cI, 16, .inl (upd dt j (nI tk)))), (aor, .inl (cI, 16, .inl (upd od pl (nI j)))), (hp, .inr (0, [.int (nI n), .ref aw, .ref av, .ref az, .ref af]))] H := hP
  have hD : va_D A [(ra, .inr (1, [.ref hp, .ref ah, .ref am, .ref at_, .ref asp, .ref afa, .ref ado, .ref adt, .ref aor, .int (nI cr), .int (nI ho), .int (nI nx), .int (nI ba), .int (nI (pl + 1)), .int (nI tk), .long rr])), (az, .inl (cZ, 16, .inl se)), (ah, .inl (cI, 16, .inl hd)), (ado, .inl (cI, 16, .inl (upd dr j (nI w)))), (adt, .inl (cI, 16, .inl (upd dt j (nI tk)))), (aor, .inl (cI, 16, .inl (upd od pl (nI j)))), (hp, .inr (0, [.int (nI n), .ref aw, .ref av, .ref az, .ref af]))] := hD
  refine lv_aload_n hx hb zd_Q_finish_61 rfl (lv_at hl 0 rfl) ?_
  refine lv_iload_n hx hb zd_Q_finish_62 rfl (lv_at hl 2 rfl) ?_
  refine z_Vv (As := [.int (nI w)]) (rest := []) (wc := [(ra, .inr (1, [.ref hp, .ref ah, .ref am, .ref at_, .ref asp, .ref afa, .ref ado, .ref adt, .ref aor, .int (nI cr), .int (nI ho), .int (nI nx), .int (nI ba), .int (nI (pl + 1)), .int (nI tk), .long rr])), (ah, .inl (cI, 16, .inl hd))]) (wr := [(az, .inl (cZ, 16, .inl se)), (ado, .inl (cI, 16, .inl (upd dr j (nI w)))), (adt, .inl (cI, 16, .inl (upd dt j (nI tk)))), (aor, .inl (cI, 16, .inl (upd od pl (nI j)))), (hp, .inr (0, [.int (nI n), .ref aw, .ref av, .ref az, .ref af]))]) ⟨hx, hb, hml, hown, htz⟩ hK hP hD hS hA (k_Race_letGo_k l dC dI cI cJ cZ ra hp ah am at_ asp afa ado adt aor cr ho nx ba (pl + 1) tk rr hd w (by first | assumption | omega) (by first | assumption | omega) (by first | assumption | omega) H.size) (zcwV 1 htz zq_320 zq_317 zq_319 zp_10 zq_5 (by decide +kernel) ⟨Nat.le_of_ble_eq_true rfl, Nat.le_of_ble_eq_true rfl⟩) 0 1 rfl rfl [0, 2] [1, 3, 4, 5, 6] rfl rfl rfl (by decide) rfl hl.1 rfl (Nat.le_of_ble_eq_true rfl) zd_Q_finish_63 ⟨Nat.le_of_ble_eq_true rfl, Nat.le_of_ble_eq_true rfl⟩ (fun u H locs hw hP hD hS => ?_)
  obtain ⟨h23_, h94_, rfl, hh5_, hk6_⟩ := hw
  have hP : va_P (dC, dI) zcl [(az, .inl (cZ, 16, .inl se)), (ado, .inl (cI, 16, .inl (upd dr j (nI w)))), (adt, .inl (cI, 16, .inl (upd dt j (nI tk)))), (aor, .inl (cI, 16, .inl (upd od pl (nI j)))), (hp, .inr (0, [.int (nI n), .ref aw, .ref av, .ref az, .ref af])), (ra, .inr (1, [.ref hp, .ref ah, .ref am, .ref at_, .ref asp, .ref afa, .ref ado, .ref adt, .ref aor, .int (nI cr), .int (nI h23_), .int (nI nx), .int (nI ba), .int (nI (pl + 1)), .int (nI tk), .long rr])), (ah, .inl (cI, 16, .inl h94_))] H := hP
  have hD : va_D A [(az, .inl (cZ, 16, .inl se)), (ado, .inl (cI, 16, .inl (upd dr j (nI w)))), (adt, .inl (cI, 16, .inl (upd dt j (nI tk)))), (aor, .inl (cI, 16, .inl (upd od pl (nI j)))), (hp, .inr (0, [.int (nI n), .ref aw, .ref av, .ref az, .ref af])), (ra, .inr (1, [.ref hp, .ref ah, .ref am, .ref at_, .ref asp, .ref afa, .ref ado, .ref adt, .ref aor, .int (nI cr), .int (nI h23_), .int (nI nx), .int (nI ba), .int (nI (pl + 1)), .int (nI tk), .long rr])), (ah, .inl (cI, 16, .inl h94_))] := hD
  obtain rfl := hh5_
  have hk8 := hk6_
  refine lv_aload_n hx hb zd_Q_finish_66 rfl (lv_at hl 0 rfl) ?_
  refine va_get (D := (dC, dI)) (ci := 1) (v := .ref hp) (C := zR_Q) (T := zF_Q) (N := 16) hx hb htz zi_Q hown hK hP 5 rfl rfl 0 (by decide) (htz _ zq_61) (fun _ h9 => h9) rfl zd_Q_finish_67 ?_
  refine lv_iload_n hx hb zd_Q_finish_70 rfl (lv_at hl 1 rfl) ?_
  refine z_Vi (As := [.int (nI j)]) (rest := []) (wc := [(hp, .inr (0, [.int (nI n), .ref aw, .ref av, .ref az, .ref af])), (az, .inl (cZ, 16, .inl se))]) (wr := [(ado, .inl (cI, 16, .inl (upd dr j (nI w)))), (adt, .inl (cI, 16, .inl (upd dt j (nI tk)))), (aor, .inl (cI, 16, .inl (upd od pl (nI j)))), (ra, .inr (1, [.ref hp, .ref ah, .ref am, .ref at_, .ref asp, .ref afa, .ref ado, .ref adt, .ref aor, .int (nI cr), .int (nI h23_), .int (nI nx), .int (nI ba), .int (nI (pl + 1)), .int (nI tk), .long rr])), (ah, .inl (cI, 16, .inl (upd hd w (-1))))]) ⟨hx, hb, hml, hown, htz⟩ hK hP hD hS hA (k_Plan_isSettling_k l dC dI cI cJ cZ hp aw av az af n se j (by first | assumption | omega) (by first | assumption | omega) H.size) (zcwV 1 htz zq_324 zq_321 zq_322 zq_323 zq_2 (by decide +kernel) ⟨Nat.le_of_ble_eq_true rfl, Nat.le_of_ble_eq_true rfl⟩) 4 0 rfl rfl [4, 0] [1, 2, 3, 5, 6] rfl rfl rfl (by decide) rfl hl.1 rfl (Nat.le_of_ble_eq_true rfl) zd_Q_finish_71 ⟨Nat.le_of_ble_eq_true rfl, Nat.le_of_ble_eq_true rfl⟩ (fun r u H locs hw hP hD hS => ?_)
  rcases hw with ⟨rfl, rfl, hs7_⟩ | ⟨rfl, rfl, hs8_⟩
  · have hP : va_P (dC, dI) zcl [(ado, .inl (cI, 16, .inl (upd dr j (nI w)))), (adt, .inl (cI, 16, .inl (upd dt j (nI tk)))), (aor, .inl (cI, 16, .inl (upd od pl (nI j)))), (ra, .inr (1, [.ref hp, .ref ah, .ref am, .ref at_, .ref asp, .ref afa, .ref ado, .ref adt, .ref aor, .int (nI cr), .int (nI h23_), .int (nI nx), .int (nI ba), .int (nI (pl + 1)), .int (nI tk), .long rr])), (ah, .inl (cI, 16, .inl (upd hd w (-1)))), (hp, .inr (0, [.int (nI n), .ref aw, .ref av, .ref az, .ref af])), (az, .inl (cZ, 16, .inl se))] H := hP
    have hD : va_D A [(ado, .inl (cI, 16, .inl (upd dr j (nI w)))), (adt, .inl (cI, 16, .inl (upd dt j (nI tk)))), (aor, .inl (cI, 16, .inl (upd od pl (nI j)))), (ra, .inr (1, [.ref hp, .ref ah, .ref am, .ref at_, .ref asp, .ref afa, .ref ado, .ref adt, .ref aor, .int (nI cr), .int (nI h23_), .int (nI nx), .int (nI ba), .int (nI (pl + 1)), .int (nI tk), .long rr])), (ah, .inl (cI, 16, .inl (upd hd w (-1)))), (hp, .inr (0, [.int (nI n), .ref aw, .ref av, .ref az, .ref af])), (az, .inl (cZ, 16, .inl se))] := hD
    have hs9 := hs7_
    refine lv_if_eq (tgt := 87) hx hb zd_Q_finish_74 (by decide) (fun c9_ => absurd c9_ (by decide)) (fun _ => ?_)
    refine lv_aload_n hx hb zd_Q_finish_77 rfl (lv_at hl 0 rfl) ?_
    refine lv_iload_n hx hb zd_Q_finish_78 rfl (lv_at hl 1 rfl) ?_
    refine va_put (D := (dC, dI)) (ci := 1) (v := .int (nI j)) (ty := .int) (C := zR_Q) (T := zF_Q) (N := 16) hx hb htz zi_Q zt_Q zt_Q_ok zn_Q hown hK hP hD hS 3 rfl rfl 12 (by decide) (htz _ zq_73) (fun _ h9 => h9) rfl (by decide +kernel) rfl rfl (Nat.le_of_ble_eq_true rfl) zd_Q_finish_79 (fun H locs hP hD hS => ?_)
    have hP : va_P (dC, dI) zcl [(ado, .inl (cI, 16, .inl (upd dr j (nI w)))), (adt, .inl (cI, 16, .inl (upd dt j (nI tk)))), (aor, .inl (cI, 16, .inl (upd od pl (nI j)))), (ra, .inr (1, [.ref hp, .ref ah, .ref am, .ref at_, .ref asp, .ref afa, .ref ado, .ref adt, .ref aor, .int (nI cr), .int (nI h23_), .int (nI nx), .int (nI j), .int (nI (pl + 1)), .int (nI tk), .long rr])), (ah, .inl (cI, 16, .inl (upd hd w (-1)))), (hp, .inr (0, [.int (nI n), .ref aw, .ref av, .ref az, .ref af])), (az, .inl (cZ, 16, .inl se))] H := hP
    have hD : va_D A [(ado, .inl (cI, 16, .inl (upd dr j (nI w)))), (adt, .inl (cI, 16, .inl (upd dt j (nI tk)))), (aor, .inl (cI, 16, .inl (upd od pl (nI j)))), (ra, .inr (1, [.ref hp, .ref ah, .ref am, .ref at_, .ref asp, .ref afa, .ref ado, .ref adt, .ref aor, .int (nI cr), .int (nI h23_), .int (nI nx), .int (nI j), .int (nI (pl + 1)), .int (nI tk), .long rr])), (ah, .inl (cI, 16, .inl (upd hd w (-1)))), (hp, .inr (0, [.int (nI n), .ref aw, .ref av, .ref az, .ref af])), (az, .inl (cZ, 16, .inl se))] := hD
    refine lv_aload_n hx hb zd_Q_finish_82 rfl (lv_at hl 0 rfl) ?_
    refine lv_iload_n hx hb zd_Q_finish_83 rfl (lv_at hl 1 rfl) ?_
    refine z_Vv (As := [.int (nI j)]) (rest := []) (wc := [(ra, .inr (1, [.ref hp, .ref ah, .ref am, .ref at_, .ref asp, .ref afa, .ref ado, .ref adt, .ref aor, .int (nI cr), .int (nI h23_), .int (nI nx), .int (nI j), .int (nI (pl + 1)), .int (nI tk), .long rr])), (ah, .inl (cI, 16, .inl (upd hd w (-1))))]) (wr := [(ado, .inl (cI, 16, .inl (upd dr j (nI w)))), (adt, .inl (cI, 16, .inl (upd dt j (nI tk)))), (aor, .inl (cI, 16, .inl (upd od pl (nI j)))), (hp, .inr (0, [.int (nI n), .ref aw, .ref av, .ref az, .ref af])), (az, .inl (cZ, 16, .inl se))]) ⟨hx, hb, hml, hown, htz⟩ hK hP hD hS hA (k_Race_dropBehind_k l dC dI cI cJ cZ ra hp ah am at_ asp afa ado adt aor cr h23_ nx j (pl + 1) tk rr (upd hd w (-1)) j (by first | assumption | omega) (by first | assumption | omega) H.size) (zcwV 1 htz zq_328 zq_325 zq_327 zp_11 zq_5 (by decide +kernel) ⟨Nat.le_of_ble_eq_true rfl, Nat.le_of_ble_eq_true rfl⟩) 3 1 rfl rfl [3, 4] [0, 1, 2, 5, 6] rfl rfl rfl (by decide) rfl hl.1 rfl (Nat.le_of_ble_eq_true rfl) zd_Q_finish_84 ⟨Nat.le_of_ble_eq_true rfl, Nat.le_of_ble_eq_true rfl⟩ (fun u H locs hw hP hD hS => ?_)
    obtain ⟨h210_, rfl, hh11_⟩ := hw
    have hP : va_P (dC, dI) zcl [(ado, .inl (cI, 16, .inl (upd dr j (nI w)))), (adt, .inl (cI, 16, .inl (upd dt j (nI tk)))), (aor, .inl (cI, 16, .inl (upd od pl (nI j)))), (hp, .inr (0, [.int (nI n), .ref aw, .ref av, .ref az, .ref af])), (az, .inl (cZ, 16, .inl se)), (ra, .inr (1, [.ref hp, .ref ah, .ref am, .ref at_, .ref asp, .ref afa, .ref ado, .ref adt, .ref aor, .int (nI cr), .int (nI h210_), .int (nI nx), .int (nI j), .int (nI (pl + 1)), .int (nI tk), .long rr])), (ah, .inl (cI, 16, .inl (zdrop (upd hd w (-1)) cr j)))] H := hP
    have hD : va_D A [(ado, .inl (cI, 16, .inl (upd dr j (nI w)))), (adt, .inl (cI, 16, .inl (upd dt j (nI tk)))), (aor, .inl (cI, 16, .inl (upd od pl (nI j)))), (hp, .inr (0, [.int (nI n), .ref aw, .ref av, .ref az, .ref af])), (az, .inl (cZ, 16, .inl se)), (ra, .inr (1, [.ref hp, .ref ah, .ref am, .ref at_, .ref asp, .ref afa, .ref ado, .ref adt, .ref aor, .int (nI cr), .int (nI h210_), .int (nI nx), .int (nI j), .int (nI (pl + 1)), .int (nI tk), .long rr])), (ah, .inl (cI, 16, .inl (zdrop (upd hd w (-1)) cr j)))] := hD
    have hk9 := hh11_
    have hP := hP.sub (ws' := [(ra, .inr (1, [.ref hp, .ref ah, .ref am, .ref at_, .ref asp, .ref afa, .ref ado, .ref adt, .ref aor, .int (nI cr), .int (nI h210_), .int (nI nx), .int (nI j), .int (nI (pl + 1)), .int (nI tk), .long rr])), (hp, .inr (0, [.int (nI n), .ref aw, .ref av, .ref az, .ref af])), (az, .inl (cZ, 16, .inl se)), (ah, .inl (cI, 16, .inl (zdrop (upd hd w (-1)) cr j))), (ado, .inl (cI, 16, .inl (upd dr j (nI w)))), (adt, .inl (cI, 16, .inl (upd dt j (nI tk)))), (aor, .inl (cI, 16, .inl (upd od pl (nI j))))]) [5, 3, 4, 6, 0, 1, 2] rfl
    have hD := hD.sub (ws' := [(ra, .inr (1, [.ref hp, .ref ah, .ref am, .ref at_, .ref asp, .ref afa, .ref ado, .ref adt, .ref aor, .int (nI cr), .int (nI h210_), .int (nI nx), .int (nI j), .int (nI (pl + 1)), .int (nI tk), .long rr])), (hp, .inr (0, [.int (nI n), .ref aw, .ref av, .ref az, .ref af])), (az, .inl (cZ, 16, .inl se)), (ah, .inl (cI, 16, .inl (zdrop (upd hd w (-1)) cr j))), (ado, .inl (cI, 16, .inl (upd dr j (nI w)))), (adt, .inl (cI, 16, .inl (upd dt j (nI tk)))), (aor, .inl (cI, 16, .inl (upd od pl (nI j))))]) [5, 3, 4, 6, 0, 1, 2] (by decide) rfl
    exact z_vret hx hb hr hlocks hP hK hD hS zd_Q_finish_87 (by decide) (by decide) (Or.inr ⟨_, rfl, hk9, hs9⟩)
  · have hP : va_P (dC, dI) zcl [(ado, .inl (cI, 16, .inl (upd dr j (nI w)))), (adt, .inl (cI, 16, .inl (upd dt j (nI tk)))), (aor, .inl (cI, 16, .inl (upd od pl (nI j)))), (ra, .inr (1, [.ref hp, .ref ah, .ref am, .ref at_, .ref asp, .ref afa, .ref ado, .ref adt, .ref aor, .int (nI cr), .int (nI h23_), .int (nI nx), .int (nI ba), .int (nI (pl + 1)), .int (nI tk), .long rr])), (ah, .inl (cI, 16, .inl (upd hd w (-1)))), (hp, .inr (0, [.int (nI n), .ref aw, .ref av, .ref az, .ref af])), (az, .inl (cZ, 16, .inl se))] H := hP
    have hD : va_D A [(ado, .inl (cI, 16, .inl (upd dr j (nI w)))), (adt, .inl (cI, 16, .inl (upd dt j (nI tk)))), (aor, .inl (cI, 16, .inl (upd od pl (nI j)))), (ra, .inr (1, [.ref hp, .ref ah, .ref am, .ref at_, .ref asp, .ref afa, .ref ado, .ref adt, .ref aor, .int (nI cr), .int (nI h23_), .int (nI nx), .int (nI ba), .int (nI (pl + 1)), .int (nI tk), .long rr])), (ah, .inl (cI, 16, .inl (upd hd w (-1)))), (hp, .inr (0, [.int (nI n), .ref aw, .ref av, .ref az, .ref af])), (az, .inl (cZ, 16, .inl se))] := hD
    have hs9 := hs8_
    refine lv_if_eq (tgt := 87) hx hb zd_Q_finish_74 (by decide) (fun _ => ?_) (fun c12_ => absurd (by decide) c12_)
    have hP := hP.sub (ws' := [(ra, .inr (1, [.ref hp, .ref ah, .ref am, .ref at_, .ref asp, .ref afa, .ref ado, .ref adt, .ref aor, .int (nI cr), .int (nI h23_), .int (nI nx), .int (nI ba), .int (nI (pl + 1)), .int (nI tk), .long rr])), (hp, .inr (0, [.int (nI n), .ref aw, .ref av, .ref az, .ref af])), (az, .inl (cZ, 16, .inl se)), (ah, .inl (cI, 16, .inl (upd hd w (-1)))), (ado, .inl (cI, 16, .inl (upd dr j (nI w)))), (adt, .inl (cI, 16, .inl (upd dt j (nI tk)))), (aor, .inl (cI, 16, .inl (upd od pl (nI j))))]) [3, 5, 6, 4, 0, 1, 2] rfl
    have hD := hD.sub (ws' := [(ra, .inr (1, [.ref hp, .ref ah, .ref am, .ref at_, .ref asp, .ref afa, .ref ado, .ref adt, .ref aor, .int (nI cr), .int (nI h23_), .int (nI nx), .int (nI ba), .int (nI (pl + 1)), .int (nI tk), .long rr])), (hp, .inr (0, [.int (nI n), .ref aw, .ref av, .ref az, .ref af])), (az, .inl (cZ, 16, .inl se)), (ah, .inl (cI, 16, .inl (upd hd w (-1)))), (ado, .inl (cI, 16, .inl (upd dr j (nI w)))), (adt, .inl (cI, 16, .inl (upd dt j (nI tk)))), (aor, .inl (cI, 16, .inl (upd od pl (nI j))))]) [3, 5, 6, 4, 0, 1, 2] (by decide) rfl
    exact z_vret hx hb hr hlocks hP hK hD hS zd_Q_finish_87 (by decide) (by decide) (Or.inl ⟨_, rfl, hk8, hs9⟩)
set_option maxHeartbeats 4000000 in
set_option maxRecDepth 100000 in
/--  -/
theorem k_Race_oneTick (l : Launch) (dC : Nat → ClassId) (dI : Nat → Nat → Nat) (cI cJ cZ : ClassId) (ra : Nat) (hp : Nat) (ah : Nat) (am : Nat) (at_ : Nat) (asp : Nat) (afa : Nat) (ado : Nat) (adt : Nat) (aor : Nat) (cr : Nat) (ho : Nat) (nx : Nat) (ba : Nat) (pl : Nat) (tk : Nat) (rr : Int64) (aw : Nat) (av : Nat) (az : Nat) (af : Nat) (n : Nat) (wk : Nat → Int32) (se : Nat → Int32) (fl : Nat → Int32) (hd : Nat → Int32) (mv : Nat → Int32) (tt : Nat → Int32) (sp : Nat → Int32) (fa : Nat → Int32) (dr : Nat → Int32) (dt : Nat → Int32) (od : Nat → Int32) (hn : n ≤ 16) (hc : cr ≤ 16) (hinv : zinv n cr (hd, mv, tt, sp, fa, dr, dt, od, nx, ba, pl, tk, rr)) (hh : ho = zcnt hd cr) (hm : 0 < zmv cr (hd, mv, tt, sp, fa, dr, dt, od, nx, ba, pl, tk, rr)) (sz : Nat) : zMv l zy_Q_oneTick zw_Q_oneTick ({ frames := 4, cells := 0, slots := 0, locals := 86 }) [.ref ra] (dC, dI) zcl [(cI, .int), (cJ, .long), (cZ, .boolean)] [(ra, .inr (1, [.ref hp, .ref ah, .ref am, .ref at_, .ref asp, .ref afa, .ref ado, .ref adt, .ref aor, .int (nI cr), .int (nI ho), .int (nI nx), .int (nI ba), .int (nI pl), .int (nI tk), .long rr])), (hp, .inr (0, [.int (nI n), .ref aw, .ref av, .ref az, .ref af])), (aw, .inl (cI, 16, .inl wk)), (az, .inl (cZ, 16, .inl se)), (af, .inl (cI, 16, .inl fl)), (ah, .inl (cI, 16, .inl hd)), (am, .inl (cI, 16, .inl mv)), (at_, .inl (cI, 16, .inl tt)), (asp, .inl (cI, 16, .inl sp)), (afa, .inl (cI, 16, .inl fa)), (ado, .inl (cI, 16, .inl dr)), (adt, .inl (cI, 16, .inl dt)), (aor, .inl (cI, 16, .inl od))] sz (fun (u : va_W) => ∃ (hd2 : ZA) (mv2 : ZA) (tt2 : ZA) (sp2 : ZA) (fa2 : ZA) (dr2 : ZA) (dt2 : ZA) (od2 : ZA) (nx2 : Nat) (ba2 : Nat) (pl2 : Nat) (tk2 : Nat) (ho2 : Nat) (rr2 : Int64), u = [(ra, .inr (1, [.ref hp, .ref ah, .ref am, .ref at_, .ref asp, .ref afa, .ref ado, .ref adt, .ref aor, .int (nI cr), .int (nI ho2), .int (nI nx2), .int (nI ba2), .int (nI pl2), .int (nI tk2), .long rr2])), (hp, .inr (0, [.int (nI n), .ref aw, .ref av, .ref az, .ref af])), (aw, .inl (cI, 16, .inl wk)), (az, .inl (cZ, 16, .inl se)), (af, .inl (cI, 16, .inl fl)), (ah, .inl (cI, 16, .inl hd2)), (am, .inl (cI, 16, .inl mv2)), (at_, .inl (cI, 16, .inl tt2)), (asp, .inl (cI, 16, .inl sp2)), (afa, .inl (cI, 16, .inl fa2)), (ado, .inl (cI, 16, .inl dr2)), (adt, .inl (cI, 16, .inl dt2)), (aor, .inl (cI, 16, .inl od2))] ∧ (hd2, mv2, tt2, sp2, fa2, dr2, dt2, od2, nx2, ba2, pl2, tk2, rr2) = zstep cr wk se fl (hd, mv, tt, sp, fa, dr, dt, od, nx, ba, pl, tk, rr) ∧ ho2 = zcnt hd2 cr) := by
  refine z_ofv (cc := zc_Q_oneTick) (maxL := 6) (ret := none) (by decide) rfl (Nat.le_of_ble_eq_true rfl) ?_
  intro p e s m below meth c A ls hx hb hr hml hown htz hlocks hin hA hP hK hD hS hl
  have hown : s.vm.findClass zR_Q = some m.cls := hown
  have hl : lv_has ls 6 [(0, .ref ra)] := hl
  obtain ⟨i1, i2, i3, i4⟩ := hinv
  have hcl := zcnt_le hd cr
  have hm0 : 0 < zmvs cr ho nx ba := by rw [hh]; exact hm
  have hm1 : zmvs cr ho nx ba ≤ 16 := by simp only [zmvs]; split <;> omega
  refine lv_aload_n hx hb zd_Q_oneTick_0 rfl (lv_at hl 0 rfl) ?_
  refine z_Vi (As := []) (rest := []) (wc := [(ra, .inr (1, [.ref hp, .ref ah, .ref am, .ref at_, .ref asp, .ref afa, .ref ado, .ref adt, .ref aor, .int (nI cr), .int (nI ho), .int (nI nx), .int (nI ba), .int (nI pl), .int (nI tk), .long rr]))]) (wr := [(hp, .inr (0, [.int (nI n), .ref aw, .ref av, .ref az, .ref af])), (aw, .inl (cI, 16, .inl wk)), (az, .inl (cZ, 16, .inl se)), (af, .inl (cI, 16, .inl fl)), (ah, .inl (cI, 16, .inl hd)), (am, .inl (cI, 16, .inl mv)), (at_, .inl (cI, 16, .inl tt)), (asp, .inl (cI, 16, .inl sp)), (afa, .inl (cI, 16, .inl fa)), (ado, .inl (cI, 16, .inl dr)), (adt, .inl (cI, 16, .inl dt)), (aor, .inl (cI, 16, .inl od))]) ⟨hx, hb, hml, hown, htz⟩ hK hP hD hS hA (k_Race_movers l dC dI cI cJ cZ ra hp ah am at_ asp afa ado adt aor cr ho nx ba pl tk rr (by first | assumption | omega) (by first | assumption | omega) s.heap.size) (zcwV 0 htz zq_277 zq_274 zq_276 zp_3 zq_5 (by decide +kernel) ⟨Nat.le_of_ble_eq_true rfl, Nat.le_of_ble_eq_true rfl⟩) 0 1 rfl rfl [0] [1, 2, 3, 4, 5, 6, 7, 8, 9, 10, 11, 12] rfl rfl rfl (by decide) rfl hl.1 rfl (Nat.le_of_ble_eq_true rfl) zd_Q_oneTick_1 ⟨Nat.le_of_ble_eq_true rfl, Nat.le_of_ble_eq_true rfl⟩ (fun r u H locs hw hP hD hS => ?_)
  obtain ⟨rfl, rfl⟩ := hw
  have hP : va_P (dC, dI) zcl [(hp, .inr (0, [.int (nI n), .ref aw, .ref av, .ref az, .ref af])), (aw, .inl (cI, 16, .inl wk)), (az, .inl (cZ, 16, .inl se)), (af, .inl (cI, 16, .inl fl)), (ah, .inl (cI, 16, .inl hd)), (am, .inl (cI, 16, .inl mv)), (at_, .inl (cI, 16, .inl tt)), (asp, .inl (cI, 16, .inl sp)), (afa, .inl (cI, 16, .inl fa)), (ado, .inl (cI, 16, .inl dr)), (adt, .inl (cI, 16, .inl dt)), (aor, .inl (cI, 16, .inl od)), (ra, .inr (1, [.ref hp, .ref ah, .ref am, .ref at_, .ref asp, .ref afa, .ref ado, .ref adt, .ref aor, .int (nI cr), .int (nI ho), .int (nI nx), .int (nI ba), .int (nI pl), .int (nI tk), .long rr]))] H := hP
  have hD : va_D A [(hp, .inr (0, [.int (nI n), .ref aw, .ref av, .ref az, .ref af])), (aw, .inl (cI, 16, .inl wk)), (az, .inl (cZ, 16, .inl se)), (af, .inl (cI, 16, .inl fl)), (ah, .inl (cI, 16, .inl hd)), (am, .inl (cI, 16, .inl mv)), (at_, .inl (cI, 16, .inl tt)), (asp, .inl (cI, 16, .inl sp)), (afa, .inl (cI, 16, .inl fa)), (ado, .inl (cI, 16, .inl dr)), (adt, .inl (cI, 16, .inl dt)), (aor, .inl (cI, 16, .inl od)), (ra, .inr (1, [.ref hp, .ref ah, .ref am, .ref at_, .ref asp, .ref afa, .ref ado, .ref adt, .ref aor, .int (nI cr), .int (nI ho), .int (nI nx), .int (nI ba), .int (nI pl), .int (nI tk), .long rr]))] := hD
  refine lv_istore_n (lv' := [(1, .int (nI (zmvs cr ho nx ba))), (0, .ref ra)]) hx hb zd_Q_oneTick_4 rfl hl (by decide) rfl (fun ls hl => ?_)
  refine lv_iload_n hx hb zd_Q_oneTick_5 rfl (lv_at hl 0 rfl) ?_
  refine lv_iconst (v := (nI 1)) hx hb zd_Q_oneTick_6 (by decide) ?_
  refine lv_icmp_ge (tgt := 11) hx hb zd_Q_oneTick_7 (by decide) (fun c1_ => ?_) (fun c1_ => absurd (nI_le hm0 (by omega)) c1_)
  refine lv_aload_n hx hb zd_Q_oneTick_11 rfl (lv_at hl 1 rfl) ?_
  refine lv_aload_n hx hb zd_Q_oneTick_12 rfl (lv_at hl 1 rfl) ?_
  refine va_get (D := (dC, dI)) (ci := 1) (v := .long rr) (C := zR_Q) (T := zF_Q) (N := 16) hx hb htz zi_Q hown hK hP 12 rfl rfl 15 (by decide) (htz _ zq_76) (fun _ h9 => h9) rfl zd_Q_oneTick_13 ?_
  refine lv_ldc2 (v := 6364136223846793005) hx hb hown (htz _ zq_286) zd_Q_oneTick_16 ?_
  refine lv_lmul hx hb zd_Q_oneTick_19 ?_
  refine lv_ldc2 (v := 1442695040888963407) hx hb hown (htz _ zq_287) zd_Q_oneTick_20 ?_
  refine lv_ladd hx hb zd_Q_oneTick_23 ?_
  refine z_topl (y := znext rr) rfl ?_
  refine va_put (D := (dC, dI)) (ci := 1) (v := .long (znext rr)) (ty := .long) (C := zR_Q) (T := zF_Q) (N := 16) hx hb htz zi_Q zt_Q zt_Q_ok zn_Q hown hK hP hD hS 12 rfl rfl 15 (by decide) (htz _ zq_76) (fun _ h9 => h9) rfl (by decide +kernel) rfl rfl (Nat.le_of_ble_eq_true rfl) zd_Q_oneTick_24 (fun H locs hP hD hS => ?_)
  have hP : va_P (dC, dI) zcl [(hp, .inr (0, [.int (nI n), .ref aw, .ref av, .ref az, .ref af])), (aw, .inl (cI, 16, .inl wk)), (az, .inl (cZ, 16, .inl se)), (af, .inl (cI, 16, .inl fl)), (ah, .inl (cI, 16, .inl hd)), (am, .inl (cI, 16, .inl mv)), (at_, .inl (cI, 16, .inl tt)), (asp, .inl (cI, 16, .inl sp)), (afa, .inl (cI, 16, .inl fa)), (ado, .inl (cI, 16, .inl dr)), (adt, .inl (cI, 16, .inl dt)), (aor, .inl (cI, 16, .inl od)), (ra, .inr (1, [.ref hp, .ref ah, .ref am, .ref at_, .ref asp, .ref afa, .ref ado, .ref adt, .ref aor, .int (nI cr), .int (nI ho), .int (nI nx), .int (nI ba), .int (nI pl), .int (nI tk), .long (znext rr)]))] H := hP
  have hD : va_D A [(hp, .inr (0, [.int (nI n), .ref aw, .ref av, .ref az, .ref af])), (aw, .inl (cI, 16, .inl wk)), (az, .inl (cZ, 16, .inl se)), (af, .inl (cI, 16, .inl fl)), (ah, .inl (cI, 16, .inl hd)), (am, .inl (cI, 16, .inl mv)), (at_, .inl (cI, 16, .inl tt)), (asp, .inl (cI, 16, .inl sp)), (afa, .inl (cI, 16, .inl fa)), (ado, .inl (cI, 16, .inl dr)), (adt, .inl (cI, 16, .inl dt)), (aor, .inl (cI, 16, .inl od)), (ra, .inr (1, [.ref hp, .ref ah, .ref am, .ref at_, .ref asp, .ref afa, .ref ado, .ref adt, .ref aor, .int (nI cr), .int (nI ho), .int (nI nx), .int (nI ba), .int (nI pl), .int (nI tk), .long (znext rr)]))] := hD
  refine lv_aload_n hx hb zd_Q_oneTick_27 rfl (lv_at hl 1 rfl) ?_
  refine va_get (D := (dC, dI)) (ci := 1) (v := .long (znext rr)) (C := zR_Q) (T := zF_Q) (N := 16) hx hb htz zi_Q hown hK hP 12 rfl rfl 15 (by decide) (htz _ zq_76) (fun _ h9 => h9) rfl zd_Q_oneTick_28 ?_
  refine lv_bipush (v := (nI 33)) hx hb zd_Q_oneTick_31 (by decide) ?_
  refine lv_lushr (v := lN ((znext rr).toBitVec.toNat / 2 ^ 33)) hx hb zd_Q_oneTick_33 (z_ushr33 _) ?_
  refine lv_l2i (v := nI ((znext rr).toBitVec.toNat / 2 ^ 33)) hx hb zd_Q_oneTick_34 (lN_i _) ?_
  refine lv_istore_n (lv' := [(2, .int (nI ((znext rr).toBitVec.toNat / 2 ^ 33))), (1, .int (nI (zmvs cr ho nx ba))), (0, .ref ra)]) hx hb zd_Q_oneTick_35 rfl hl (by decide) rfl (fun ls hl => ?_)
  refine lv_aload_n hx hb zd_Q_oneTick_36 rfl (lv_at hl 2 rfl) ?_
  refine lv_iload_n hx hb zd_Q_oneTick_37 rfl (lv_at hl 0 rfl) ?_
  refine lv_iload_n hx hb zd_Q_oneTick_38 rfl (lv_at hl 1 rfl) ?_
  refine lv_irem hx hb zd_Q_oneTick_39 (nI_ne0 hm0 (by omega)) ?_
  refine z_topi (y := nI (zq (znext rr) (zmvs cr ho nx ba))) (pk_rem (z_u31 _) hm0 (by omega)) ?_
  refine z_Vi (As := [.int (nI (zq (znext rr) (zmvs cr ho nx ba)))]) (rest := []) (wc := [(ra, .inr (1, [.ref hp, .ref ah, .ref am, .ref at_, .ref asp, .ref afa, .ref ado, .ref adt, .ref aor, .int (nI cr), .int (nI ho), .int (nI nx), .int (nI ba), .int (nI pl), .int (nI tk), .long (znext rr)])), (ah, .inl (cI, 16, .inl hd))]) (wr := [(hp, .inr (0, [.int (nI n), .ref aw, .ref av, .ref az, .ref af])), (aw, .inl (cI, 16, .inl wk)), (az, .inl (cZ, 16, .inl se)), (af, .inl (cI, 16, .inl fl)), (am, .inl (cI, 16, .inl mv)), (at_, .inl (cI, 16, .inl tt)), (asp, .inl (cI, 16, .inl sp)), (afa, .inl (cI, 16, .inl fa)), (ado, .inl (cI, 16, .inl dr)), (adt, .inl (cI, 16, .inl dt)), (aor, .inl (cI, 16, .inl od))]) ⟨hx, hb, hml, hown, htz⟩ hK hP hD hS hA (k_Race_moverBehind_k l dC dI cI cJ cZ ra hp ah am at_ asp afa ado adt aor cr ho nx ba pl tk (znext rr) hd (zq (znext rr) (zmvs cr ho nx ba)) (by first | assumption | omega) (by first | assumption | omega) (by first | assumption | omega) (fun h => by have e : zmvs cr ho nx ba = ho := if_neg (Nat.not_lt.mpr h); rw [e]; rw [← hh]; exact zq_lt (by rw [e] at hm0; exact hm0)) H.size) (zcwV 1 htz zq_291 zq_288 zq_290 zp_6 zq_5 (by decide +kernel) ⟨Nat.le_of_ble_eq_true rfl, Nat.le_of_ble_eq_true rfl⟩) 12 1 rfl rfl [12, 4] [0, 1, 2, 3, 5, 6, 7, 8, 9, 10, 11] rfl rfl rfl (by decide) rfl hl.1 rfl (Nat.le_of_ble_eq_true rfl) zd_Q_oneTick_40 ⟨Nat.le_of_ble_eq_true rfl, Nat.le_of_ble_eq_true rfl⟩ (fun r u H locs hw hP hD hS => ?_)
  obtain ⟨rfl, rfl⟩ := hw
  have hP : va_P (dC, dI) zcl [(hp, .inr (0, [.int (nI n), .ref aw, .ref av, .ref az, .ref af])), (aw, .inl (cI, 16, .inl wk)), (az, .inl (cZ, 16, .inl se)), (af, .inl (cI, 16, .inl fl)), (am, .inl (cI, 16, .inl mv)), (at_, .inl (cI, 16, .inl tt)), (asp, .inl (cI, 16, .inl sp)), (afa, .inl (cI, 16, .inl fa)), (ado, .inl (cI, 16, .inl dr)), (adt, .inl (cI, 16, .inl dt)), (aor, .inl (cI, 16, .inl od)), (ra, .inr (1, [.ref hp, .ref ah, .ref am, .ref at_, .ref asp, .ref afa, .ref ado, .ref adt, .ref aor, .int (nI cr), .int (nI ho), .int (nI nx), .int (nI ba), .int (nI pl), .int (nI tk), .long (znext rr)])), (ah, .inl (cI, 16, .inl hd))] H := hP
  have hD : va_D A [(hp, .inr (0, [.int (nI n), .ref aw, .ref av, .ref az, .ref af])), (aw, .inl (cI, 16, .inl wk)), (az, .inl (cZ, 16, .inl se)), (af, .inl (cI, 16, .inl fl)), (am, .inl (cI, 16, .inl mv)), (at_, .inl (cI, 16, .inl tt)), (asp, .inl (cI, 16, .inl sp)), (afa, .inl (cI, 16, .inl fa)), (ado, .inl (cI, 16, .inl dr)), (adt, .inl (cI, 16, .inl dt)), (aor, .inl (cI, 16, .inl od)), (ra, .inr (1, [.ref hp, .ref ah, .ref am, .ref at_, .ref asp, .ref afa, .ref ado, .ref adt, .ref aor, .int (nI cr), .int (nI ho), .int (nI nx), .int (nI ba), .int (nI pl), .int (nI tk), .long (znext rr)])), (ah, .inl (cI, 16, .inl hd))] := hD
  obtain ⟨w9, hw9⟩ : ∃ w9, w9 = zbh hd cr nx ba (zq (znext rr) (zmvs cr ho nx ba)) := ⟨_, rfl⟩
  refine z_topi (y := nI w9) (by rw [hw9]) ?_
  have hwho : zwho cr hd nx ba (znext rr) = w9 := by rw [hw9, hh]; exact zwho_zbh
  obtain ⟨hwlt, hwt⟩ := zwho_ok (r0 := znext rr) hm
  rw [hwho] at hwlt hwt
  refine lv_istore_n (lv' := [(3, .int (nI w9)), (2, .int (nI ((znext rr).toBitVec.toNat / 2 ^ 33))), (1, .int (nI (zmvs cr ho nx ba))), (0, .ref ra)]) hx hb zd_Q_oneTick_43 rfl hl (by decide) rfl (fun ls hl => ?_)
  refine lv_aload_n hx hb zd_Q_oneTick_44 rfl (lv_at hl 3 rfl) ?_
  refine lv_iload_n hx hb zd_Q_oneTick_45 rfl (lv_at hl 0 rfl) ?_
  refine z_Vi (As := [.int (nI w9)]) (rest := []) (wc := [(ra, .inr (1, [.ref hp, .ref ah, .ref am, .ref at_, .ref asp, .ref afa, .ref ado, .ref adt, .ref aor, .int (nI cr), .int (nI ho), .int (nI nx), .int (nI ba), .int (nI pl), .int (nI tk), .long (znext rr)]))]) (wr := [(hp, .inr (0, [.int (nI n), .ref aw, .ref av, .ref az, .ref af])), (aw, .inl (cI, 16, .inl wk)), (az, .inl (cZ, 16, .inl se)), (af, .inl (cI, 16, .inl fl)), (am, .inl (cI, 16, .inl mv)), (at_, .inl (cI, 16, .inl tt)), (asp, .inl (cI, 16, .inl sp)), (afa, .inl (cI, 16, .inl fa)), (ado, .inl (cI, 16, .inl dr)), (adt, .inl (cI, 16, .inl dt)), (aor, .inl (cI, 16, .inl od)), (ah, .inl (cI, 16, .inl hd))]) ⟨hx, hb, hml, hown, htz⟩ hK hP hD hS hA (k_Race_hasWorker_k l dC dI cI cJ cZ ra hp ah am at_ asp afa ado adt aor cr ho nx ba pl tk (znext rr) w9 (by first | assumption | omega) (by first | assumption | omega) H.size) (zcwV 1 htz zq_295 zq_292 zq_293 zq_294 zq_5 (by decide +kernel) ⟨Nat.le_of_ble_eq_true rfl, Nat.le_of_ble_eq_true rfl⟩) 11 1 rfl rfl [11] [0, 1, 2, 3, 4, 5, 6, 7, 8, 9, 10, 12] rfl rfl rfl (by decide) rfl hl.1 rfl (Nat.le_of_ble_eq_true rfl) zd_Q_oneTick_46 ⟨Nat.le_of_ble_eq_true rfl, Nat.le_of_ble_eq_true rfl⟩ (fun r u H locs hw hP hD hS => ?_)
  obtain ⟨rfl, rfl⟩ := hw
  have hP : va_P (dC, dI) zcl [(hp, .inr (0, [.int (nI n), .ref aw, .ref av, .ref az, .ref af])), (aw, .inl (cI, 16, .inl wk)), (az, .inl (cZ, 16, .inl se)), (af, .inl (cI, 16, .inl fl)), (am, .inl (cI, 16, .inl mv)), (at_, .inl (cI, 16, .inl tt)), (asp, .inl (cI, 16, .inl sp)), (afa, .inl (cI, 16, .inl fa)), (ado, .inl (cI, 16, .inl dr)), (adt, .inl (cI, 16, .inl dt)), (aor, .inl (cI, 16, .inl od)), (ah, .inl (cI, 16, .inl hd)), (ra, .inr (1, [.ref hp, .ref ah, .ref am, .ref at_, .ref asp, .ref afa, .ref ado, .ref adt, .ref aor, .int (nI cr), .int (nI ho), .int (nI nx), .int (nI ba), .int (nI pl), .int (nI tk), .long (znext rr)]))] H := hP
  have hD : va_D A [(hp, .inr (0, [.int (nI n), .ref aw, .ref av, .ref az, .ref af])), (aw, .inl (cI, 16, .inl wk)), (az, .inl (cZ, 16, .inl se)), (af, .inl (cI, 16, .inl fl)), (am, .inl (cI, 16, .inl mv)), (at_, .inl (cI, 16, .inl tt)), (asp, .inl (cI, 16, .inl sp)), (afa, .inl (cI, 16, .inl fa)), (ado, .inl (cI, 16, .inl dr)), (adt, .inl (cI, 16, .inl dt)), (aor, .inl (cI, 16, .inl od)), (ah, .inl (cI, 16, .inl hd)), (ra, .inr (1, [.ref hp, .ref ah, .ref am, .ref at_, .ref asp, .ref afa, .ref ado, .ref adt, .ref aor, .int (nI cr), .int (nI ho), .int (nI nx), .int (nI ba), .int (nI pl), .int (nI tk), .long (znext rr)]))] := hD
  refine lv_if_ne (tgt := 53) hx hb zd_Q_oneTick_49 (by decide) (fun _ => ?_) (fun c2_ => absurd c2_ (by decide))
  refine lv_aload_n hx hb zd_Q_oneTick_53 rfl (lv_at hl 3 rfl) ?_
  refine lv_dup hx hb zd_Q_oneTick_54 rfl ?_
  refine va_get (D := (dC, dI)) (ci := 1) (v := .int (nI tk)) (C := zR_Q) (T := zF_Q) (N := 16) hx hb htz zi_Q hown hK hP 12 rfl rfl 14 (by decide) (htz _ zq_75) (fun _ h9 => h9) rfl zd_Q_oneTick_55 ?_
  refine lv_iconst (v := (nI 1)) hx hb zd_Q_oneTick_58 (by decide) ?_
  refine lv_iadd hx hb zd_Q_oneTick_59 ?_
  refine z_topi (y := (nI (tk + 1))) (nI_add tk 1) ?_
  refine va_put (D := (dC, dI)) (ci := 1) (v := .int (nI (tk + 1))) (ty := .int) (C := zR_Q) (T := zF_Q) (N := 16) hx hb htz zi_Q zt_Q zt_Q_ok zn_Q hown hK hP hD hS 12 rfl rfl 14 (by decide) (htz _ zq_75) (fun _ h9 => h9) rfl (by decide +kernel) rfl rfl (Nat.le_of_ble_eq_true rfl) zd_Q_oneTick_60 (fun H locs hP hD hS => ?_)
  have hP : va_P (dC, dI) zcl [(hp, .inr (0, [.int (nI n), .ref aw, .ref av, .ref az, .ref af])), (aw, .inl (cI, 16, .inl wk)), (az, .inl (cZ, 16, .inl se)), (af, .inl (cI, 16, .inl fl)), (am, .inl (cI, 16, .inl mv)), (at_, .inl (cI, 16, .inl tt)), (asp, .inl (cI, 16, .inl sp)), (afa, .inl (cI, 16, .inl fa)), (ado, .inl (cI, 16, .inl dr)), (adt, .inl (cI, 16, .inl dt)), (aor, .inl (cI, 16, .inl od)), (ah, .inl (cI, 16, .inl hd)), (ra, .inr (1, [.ref hp, .ref ah, .ref am, .ref at_, .ref asp, .ref afa, .ref ado, .ref adt, .ref aor, .int (nI cr), .int (nI ho), .int (nI nx), .int (nI ba), .int (nI pl), .int (nI (tk + 1)), .long (znext rr)]))] H := hP
  have hD : va_D A [(hp, .inr (0, [.int (nI n), .ref aw, .ref av, .ref az, .ref af])), (aw, .inl (cI, 16, .inl wk)), (az, .inl (cZ, 16, .inl se)), (af, .inl (cI, 16, .inl fl)), (am, .inl (cI, 16, .inl mv)), (at_, .inl (cI, 16, .inl tt)), (asp, .inl (cI, 16, .inl sp)), (afa, .inl (cI, 16, .inl fa)), (ado, .inl (cI, 16, .inl dr)), (adt, .inl (cI, 16, .inl dt)), (aor, .inl (cI, 16, .inl od)), (ah, .inl (cI, 16, .inl hd)), (ra, .inr (1, [.ref hp, .ref ah, .ref am, .ref at_, .ref asp, .ref afa, .ref ado, .ref adt, .ref aor, .int (nI cr), .int (nI ho), .int (nI nx), .int (nI ba), .int (nI pl), .int (nI (tk + 1)), .long (znext rr)]))] := hD
  refine lv_aload_n hx hb zd_Q_oneTick_63 rfl (lv_at hl 3 rfl) ?_
  refine va_get (D := (dC, dI)) (ci := 1) (v := .ref am) (C := zR_Q) (T := zF_Q) (N := 16) hx hb htz zi_Q hown hK hP 12 rfl rfl 2 (by decide) (htz _ zq_63) (fun _ h9 => h9) rfl zd_Q_oneTick_64 ?_
  refine lv_iload_n hx hb zd_Q_oneTick_67 rfl (lv_at hl 0 rfl) ?_
  refine lv_dup2_11 hx hb zd_Q_oneTick_68 rfl rfl ?_
  refine z_iald hx hb hK hP 4 0 rfl rfl (j := w9) (by omega) (by decide) zd_Q_oneTick_69 ?_
  refine lv_iconst (v := (nI 1)) hx hb zd_Q_oneTick_70 (by decide) ?_
  refine lv_iadd hx hb zd_Q_oneTick_71 ?_
  refine z_topi (y := ((mv w9) + 1)) rfl ?_
  refine z_iast hx hb hK hP hD hS 4 0 rfl rfl (j := w9) (by omega) (by decide) zd_Q_oneTick_72 (fun H locs hP hD hS => ?_)
  have hP : va_P (dC, dI) zcl [(hp, .inr (0, [.int (nI n), .ref aw, .ref av, .ref az, .ref af])), (aw, .inl (cI, 16, .inl wk)), (az, .inl (cZ, 16, .inl se)), (af, .inl (cI, 16, .inl fl)), (am, .inl (cI, 16, .inl (upd mv w9 ((mv w9) + 1)))), (at_, .inl (cI, 16, .inl tt)), (asp, .inl (cI, 16, .inl sp)), (afa, .inl (cI, 16, .inl fa)), (ado, .inl (cI, 16, .inl dr)), (adt, .inl (cI, 16, .inl dt)), (aor, .inl (cI, 16, .inl od)), (ah, .inl (cI, 16, .inl hd)), (ra, .inr (1, [.ref hp, .ref ah, .ref am, .ref at_, .ref asp, .ref afa, .ref ado, .ref adt, .ref aor, .int (nI cr), .int (nI ho), .int (nI nx), .int (nI ba), .int (nI pl), .int (nI (tk + 1)), .long (znext rr)]))] H := hP
  have hD : va_D A [(hp, .inr (0, [.int (nI n), .ref aw, .ref av, .ref az, .ref af])), (aw, .inl (cI, 16, .inl wk)), (az, .inl (cZ, 16, .inl se)), (af, .inl (cI, 16, .inl fl)), (am, .inl (cI, 16, .inl (upd mv w9 ((mv w9) + 1)))), (at_, .inl (cI, 16, .inl tt)), (asp, .inl (cI, 16, .inl sp)), (afa, .inl (cI, 16, .inl fa)), (ado, .inl (cI, 16, .inl dr)), (adt, .inl (cI, 16, .inl dt)), (aor, .inl (cI, 16, .inl od)), (ah, .inl (cI, 16, .inl hd)), (ra, .inr (1, [.ref hp, .ref ah, .ref am, .ref at_, .ref asp, .ref afa, .ref ado, .ref adt, .ref aor, .int (nI cr), .int (nI ho), .int (nI nx), .int (nI ba), .int (nI pl), .int (nI (tk + 1)), .long (znext rr)]))] := hD
  have jn88 : ∀ (h1 : ZA) (n1 : Nat) (o1 : Nat) (j : Nat) (H : Heap) (locs : List Loc) (ls : Array Slot), (h1 w9 = nI j) → (j < n) → (ztake w9 (hd, mv, tt, sp, fa, dr, dt, od, nx, ba, pl, tk, rr) = (h1, mv, tt, sp, fa, dr, dt, od, n1, ba, pl, tk, rr)) → (o1 = zcnt h1 cr) → (pl + zcnt h1 cr ≤ n) → va_P (dC, dI) zcl [(hp, .inr (0, [.int (nI n), .ref aw, .ref av, .ref az, .ref af])), (aw, .inl (cI, 16, .inl wk)), (az, .inl (cZ, 16, .inl se)), (af, .inl (cI, 16, .inl fl)), (am, .inl (cI, 16, .inl (upd mv w9 ((mv w9) + 1)))), (at_, .inl (cI, 16, .inl tt)), (asp, .inl (cI, 16, .inl sp)), (afa, .inl (cI, 16, .inl fa)), (ado, .inl (cI, 16, .inl dr)), (adt, .inl (cI, 16, .inl dt)), (aor, .inl (cI, 16, .inl od)), (ah, .inl (cI, 16, .inl h1)), (ra, .inr (1, [.ref hp, .ref ah, .ref am, .ref at_, .ref asp, .ref afa, .ref ado, .ref adt, .ref aor, .int (nI cr), .int (nI o1), .int (nI n1), .int (nI ba), .int (nI pl), .int (nI (tk + 1)), .long (znext rr)]))] H → va_D A [(hp, .inr (0, [.int (nI n), .ref aw, .ref av, .ref az, .ref af])), (aw, .inl (cI, 16, .inl wk)), (az, .inl (cZ, 16, .inl se)), (af, .inl (cI, 16, .inl fl)), (am, .inl (cI, 16, .inl (upd mv w9 ((mv w9) + 1)))), (at_, .inl (cI, 16, .inl tt)), (asp, .inl (cI, 16, .inl sp)), (afa, .inl (cI, 16, .inl fa)), (ado, .inl (cI, 16, .inl dr)), (adt, .inl (cI, 16, .inl dt)), (aor, .inl (cI, 16, .inl od)), (ah, .inl (cI, 16, .inl h1)), (ra, .inr (1, [.ref hp, .ref ah, .ref am, .ref at_, .ref asp, .ref afa, .ref ado, .ref adt, .ref aor, .int (nI cr), .int (nI o1), .int (nI n1), .int (nI ba), .int (nI pl), .int (nI (tk + 1)), .long (znext rr)]))] → va_S A s.heap H locs → lv_has ls 6 [(3, .int (nI w9)), (2, .int (nI ((znext rr).toBitVec.toNat / 2 ^ 33))), (1, .int (nI (zmvs cr ho nx ba))), (0, .ref ra)] → W p l e ({ frames := 4, cells := 0, slots := 0, locals := 86 } : Room) s m [.ref ra].toArray below meth c H locs 0 0 (MQ below (va_Qv (fun (u : va_W) => ∃ (hd2 : ZA) (mv2 : ZA) (tt2 : ZA) (sp2 : ZA) (fa2 : ZA) (dr2 : ZA) (dt2 : ZA) (od2 : ZA) (nx2 : Nat) (ba2 : Nat) (pl2 : Nat) (tk2 : Nat) (ho2 : Nat) (rr2 : Int64), u = [(ra, .inr (1, [.ref hp, .ref ah, .ref am, .ref at_, .ref asp, .ref afa, .ref ado, .ref adt, .ref aor, .int (nI cr), .int (nI ho2), .int (nI nx2), .int (nI ba2), .int (nI pl2), .int (nI tk2), .long rr2])), (hp, .inr (0, [.int (nI n), .ref aw, .ref av, .ref az, .ref af])), (aw, .inl (cI, 16, .inl wk)), (az, .inl (cZ, 16, .inl se)), (af, .inl (cI, 16, .inl fl)), (ah, .inl (cI, 16, .inl hd2)), (am, .inl (cI, 16, .inl mv2)), (at_, .inl (cI, 16, .inl tt2)), (asp, .inl (cI, 16, .inl sp2)), (afa, .inl (cI, 16, .inl fa2)), (ado, .inl (cI, 16, .inl dr2)), (adt, .inl (cI, 16, .inl dt2)), (aor, .inl (cI, 16, .inl od2))] ∧ (hd2, mv2, tt2, sp2, fa2, dr2, dt2, od2, nx2, ba2, pl2, tk2, rr2) = zstep cr wk se fl (hd, mv, tt, sp, fa, dr, dt, od, nx, ba, pl, tk, rr) ∧ ho2 = zcnt hd2 cr) (zAt (dC, dI) zcl [(cI, .int), (cJ, .long), (cZ, .boolean)] A) A) [.ref ra].toArray s 0 0 A) (F0 m 88 ls []) := by
    intro h1 n1 o1 j H locs ls ej hj hx1 hh1 hp1 hP hD hS hl
    refine lv_aload_n hx hb zd_Q_oneTick_88 rfl (lv_at hl 3 rfl) ?_
    refine va_get (D := (dC, dI)) (ci := 1) (v := .ref ah) (C := zR_Q) (T := zF_Q) (N := 16) hx hb htz zi_Q hown hK hP 12 rfl rfl 1 (by decide) (htz _ zq_62) (fun _ h9 => h9) rfl zd_Q_oneTick_89 ?_
    refine lv_iload_n hx hb zd_Q_oneTick_92 rfl (lv_at hl 0 rfl) ?_
    refine z_iald hx hb hK hP 11 0 rfl rfl (j := w9) (by omega) (by decide) zd_Q_oneTick_93 ?_
    refine z_topi (y := nI j) ej ?_
    refine lv_istore (lv' := [(4, .int (nI j)), (3, .int (nI w9)), (2, .int (nI ((znext rr).toBitVec.toNat / 2 ^ 33))), (1, .int (nI (zmvs cr ho nx ba))), (0, .ref ra)]) hx hb zd_Q_oneTick_94 hl (by decide) rfl (fun ls hl => ?_)
    refine lv_aload_n hx hb zd_Q_oneTick_96 rfl (lv_at hl 4 rfl) ?_
    refine lv_iload hx hb zd_Q_oneTick_97 (lv_at hl 0 rfl) ?_
    refine z_Vi (As := [.int (nI j)]) (rest := []) (wc := [(ra, .inr (1, [.ref hp, .ref ah, .ref am, .ref at_, .ref asp, .ref afa, .ref ado, .ref adt, .ref aor, .int (nI cr), .int (nI o1), .int (nI n1), .int (nI ba), .int (nI pl), .int (nI (tk + 1)), .long (znext rr)])), (hp, .inr (0, [.int (nI n), .ref aw, .ref av, .ref az, .ref af])), (aw, .inl (cI, 16, .inl wk)), (af, .inl (cI, 16, .inl fl)), (at_, .inl (cI, 16, .inl tt)), (asp, .inl (cI, 16, .inl sp)), (afa, .inl (cI, 16, .inl fa))]) (wr := [(az, .inl (cZ, 16, .inl se)), (am, .inl (cI, 16, .inl (upd mv w9 ((mv w9) + 1)))), (ado, .inl (cI, 16, .inl dr)), (adt, .inl (cI, 16, .inl dt)), (aor, .inl (cI, 16, .inl od)), (ah, .inl (cI, 16, .inl h1))]) ⟨hx, hb, hml, hown, htz⟩ hK hP hD hS hA (k_Race_spendTick_k l dC dI cI cJ cZ ra hp ah am at_ asp afa ado adt aor cr o1 n1 ba pl (tk + 1) (znext rr) aw av az af n wk fl tt sp fa j (by first | assumption | omega) (by first | assumption | omega) H.size) (zcwV 1 htz zq_303 zq_300 zq_302 zp_8 zq_5 (by decide +kernel) ⟨Nat.le_of_ble_eq_true rfl, Nat.le_of_ble_eq_true rfl⟩) 12 1 rfl rfl [12, 0, 1, 3, 5, 6, 7] [2, 4, 8, 9, 10, 11] rfl rfl rfl (by decide) rfl hl.1 rfl (Nat.le_of_ble_eq_true rfl) zd_Q_oneTick_99 ⟨Nat.le_of_ble_eq_true rfl, Nat.le_of_ble_eq_true rfl⟩ (fun r u H locs hw hP hD hS => ?_)
    rcases hw with ⟨rfl, rfl, ha3_⟩ | ⟨rfl, rfl, ha4_, hb5_⟩ | ⟨rfl, rfl, ha6_, hb7_⟩
    · have hP : va_P (dC, dI) zcl [(az, .inl (cZ, 16, .inl se)), (am, .inl (cI, 16, .inl (upd mv w9 ((mv w9) + 1)))), (ado, .inl (cI, 16, .inl dr)), (adt, .inl (cI, 16, .inl dt)), (aor, .inl (cI, 16, .inl od)), (ah, .inl (cI, 16, .inl h1)), (ra, .inr (1, [.ref hp, .ref ah, .ref am, .ref at_, .ref asp, .ref afa, .ref ado, .ref adt, .ref aor, .int (nI cr), .int (nI o1), .int (nI n1), .int (nI ba), .int (nI pl), .int (nI (tk + 1)), .long (znext rr)])), (hp, .inr (0, [.int (nI n), .ref aw, .ref av, .ref az, .ref af])), (aw, .inl (cI, 16, .inl wk)), (af, .inl (cI, 16, .inl fl)), (at_, .inl (cI, 16, .inl (upd tt j (tt j + 1)))), (asp, .inl (cI, 16, .inl (upd sp j (sp j + 1)))), (afa, .inl (cI, 16, .inl fa))] H := hP
      have hD : va_D A [(az, .inl (cZ, 16, .inl se)), (am, .inl (cI, 16, .inl (upd mv w9 ((mv w9) + 1)))), (ado, .inl (cI, 16, .inl dr)), (adt, .inl (cI, 16, .inl dt)), (aor, .inl (cI, 16, .inl od)), (ah, .inl (cI, 16, .inl h1)), (ra, .inr (1, [.ref hp, .ref ah, .ref am, .ref at_, .ref asp, .ref afa, .ref ado, .ref adt, .ref aor, .int (nI cr), .int (nI o1), .int (nI n1), .int (nI ba), .int (nI pl), .int (nI (tk + 1)), .long (znext rr)])), (hp, .inr (0, [.int (nI n), .ref aw, .ref av, .ref az, .ref af])), (aw, .inl (cI, 16, .inl wk)), (af, .inl (cI, 16, .inl fl)), (at_, .inl (cI, 16, .inl (upd tt j (tt j + 1)))), (asp, .inl (cI, 16, .inl (upd sp j (sp j + 1)))), (afa, .inl (cI, 16, .inl fa))] := hD
      have ha9 := ha3_
      refine lv_istore (lv' := [(5, .int (nI 0)), (4, .int (nI j)), (3, .int (nI w9)), (2, .int (nI ((znext rr).toBitVec.toNat / 2 ^ 33))), (1, .int (nI (zmvs cr ho nx ba))), (0, .ref ra)]) hx hb zd_Q_oneTick_102 hl (by decide) rfl (fun ls hl => ?_)
      refine lv_iload hx hb zd_Q_oneTick_104 (lv_at hl 0 rfl) ?_
      refine lv_if_eq (tgt := 116) hx hb zd_Q_oneTick_106 (by decide) (fun _ => ?_) (fun c8_ => absurd (by decide) c8_)
      have hP := hP.sub (ws' := [(ra, .inr (1, [.ref hp, .ref ah, .ref am, .ref at_, .ref asp, .ref afa, .ref ado, .ref adt, .ref aor, .int (nI cr), .int (nI o1), .int (nI n1), .int (nI ba), .int (nI pl), .int (nI (tk + 1)), .long (znext rr)])), (hp, .inr (0, [.int (nI n), .ref aw, .ref av, .ref az, .ref af])), (aw, .inl (cI, 16, .inl wk)), (az, .inl (cZ, 16, .inl se)), (af, .inl (cI, 16, .inl fl)), (ah, .inl (cI, 16, .inl h1)), (am, .inl (cI, 16, .inl (upd mv w9 ((mv w9) + 1)))), (at_, .inl (cI, 16, .inl (upd tt j (tt j + 1)))), (asp, .inl (cI, 16, .inl (upd sp j (sp j + 1)))), (afa, .inl (cI, 16, .inl fa)), (ado, .inl (cI, 16, .inl dr)), (adt, .inl (cI, 16, .inl dt)), (aor, .inl (cI, 16, .inl od))]) [6, 7, 8, 0, 9, 5, 1, 10, 11, 12, 2, 3, 4] rfl
      have hD := hD.sub (ws' := [(ra, .inr (1, [.ref hp, .ref ah, .ref am, .ref at_, .ref asp, .ref afa, .ref ado, .ref adt, .ref aor, .int (nI cr), .int (nI o1), .int (nI n1), .int (nI ba), .int (nI pl), .int (nI (tk + 1)), .long (znext rr)])), (hp, .inr (0, [.int (nI n), .ref aw, .ref av, .ref az, .ref af])), (aw, .inl (cI, 16, .inl wk)), (az, .inl (cZ, 16, .inl se)), (af, .inl (cI, 16, .inl fl)), (ah, .inl (cI, 16, .inl h1)), (am, .inl (cI, 16, .inl (upd mv w9 ((mv w9) + 1)))), (at_, .inl (cI, 16, .inl (upd tt j (tt j + 1)))), (asp, .inl (cI, 16, .inl (upd sp j (sp j + 1)))), (afa, .inl (cI, 16, .inl fa)), (ado, .inl (cI, 16, .inl dr)), (adt, .inl (cI, 16, .inl dt)), (aor, .inl (cI, 16, .inl od))]) [6, 7, 8, 0, 9, 5, 1, 10, 11, 12, 2, 3, 4] (by decide) rfl
      exact z_vret hx hb hr hlocks hP hK hD hS zd_Q_oneTick_116 (by decide) (by decide) ⟨_, _, _, _, _, _, _, _, _, _, _, _, _, _, rfl, by rw [zstep_of hwho, hx1, zwork_1 (by omega) ej ha9], hh1⟩
    · have hP : va_P (dC, dI) zcl [(az, .inl (cZ, 16, .inl se)), (am, .inl (cI, 16, .inl (upd mv w9 ((mv w9) + 1)))), (ado, .inl (cI, 16, .inl dr)), (adt, .inl (cI, 16, .inl dt)), (aor, .inl (cI, 16, .inl od)), (ah, .inl (cI, 16, .inl h1)), (ra, .inr (1, [.ref hp, .ref ah, .ref am, .ref at_, .ref asp, .ref afa, .ref ado, .ref adt, .ref aor, .int (nI cr), .int (nI o1), .int (nI n1), .int (nI ba), .int (nI pl), .int (nI (tk + 1)), .long (znext rr)])), (hp, .inr (0, [.int (nI n), .ref aw, .ref av, .ref az, .ref af])), (aw, .inl (cI, 16, .inl wk)), (af, .inl (cI, 16, .inl fl)), (at_, .inl (cI, 16, .inl (upd (upd tt j (tt j + 1)) j 0))), (asp, .inl (cI, 16, .inl (upd sp j (sp j + 1)))), (afa, .inl (cI, 16, .inl (upd fa j (fa j + 1))))] H := hP
      have hD : va_D A [(az, .inl (cZ, 16, .inl se)), (am, .inl (cI, 16, .inl (upd mv w9 ((mv w9) + 1)))), (ado, .inl (cI, 16, .inl dr)), (adt, .inl (cI, 16, .inl dt)), (aor, .inl (cI, 16, .inl od)), (ah, .inl (cI, 16, .inl h1)), (ra, .inr (1, [.ref hp, .ref ah, .ref am, .ref at_, .ref asp, .ref afa, .ref ado, .ref adt, .ref aor, .int (nI cr), .int (nI o1), .int (nI n1), .int (nI ba), .int (nI pl), .int (nI (tk + 1)), .long (znext rr)])), (hp, .inr (0, [.int (nI n), .ref aw, .ref av, .ref az, .ref af])), (aw, .inl (cI, 16, .inl wk)), (af, .inl (cI, 16, .inl fl)), (at_, .inl (cI, 16, .inl (upd (upd tt j (tt j + 1)) j 0))), (asp, .inl (cI, 16, .inl (upd sp j (sp j + 1)))), (afa, .inl (cI, 16, .inl (upd fa j (fa j + 1))))] := hD
      have ha9 := ha4_
      have hb9 := hb5_
      refine lv_istore (lv' := [(5, .int (nI 0)), (4, .int (nI j)), (3, .int (nI w9)), (2, .int (nI ((znext rr).toBitVec.toNat / 2 ^ 33))), (1, .int (nI (zmvs cr ho nx ba))), (0, .ref ra)]) hx hb zd_Q_oneTick_102 hl (by decide) rfl (fun ls hl => ?_)
      refine lv_iload hx hb zd_Q_oneTick_104 (lv_at hl 0 rfl) ?_
      refine lv_if_eq (tgt := 116) hx hb zd_Q_oneTick_106 (by decide) (fun _ => ?_) (fun c9_ => absurd (by decide) c9_)
      have hP := hP.sub (ws' := [(ra, .inr (1, [.ref hp, .ref ah, .ref am, .ref at_, .ref asp, .ref afa, .ref ado, .ref adt, .ref aor, .int (nI cr), .int (nI o1), .int (nI n1), .int (nI ba), .int (nI pl), .int (nI (tk + 1)), .long (znext rr)])), (hp, .inr (0, [.int (nI n), .ref aw, .ref av, .ref az, .ref af])), (aw, .inl (cI, 16, .inl wk)), (az, .inl (cZ, 16, .inl se)), (af, .inl (cI, 16, .inl fl)), (ah, .inl (cI, 16, .inl h1)), (am, .inl (cI, 16, .inl (upd mv w9 ((mv w9) + 1)))), (at_, .inl (cI, 16, .inl (upd (upd tt j (tt j + 1)) j 0))), (asp, .inl (cI, 16, .inl (upd sp j (sp j + 1)))), (afa, .inl (cI, 16, .inl (upd fa j (fa j + 1)))), (ado, .inl (cI, 16, .inl dr)), (adt, .inl (cI, 16, .inl dt)), (aor, .inl (cI, 16, .inl od))]) [6, 7, 8, 0, 9, 5, 1, 10, 11, 12, 2, 3, 4] rfl
      have hD := hD.sub (ws' := [(ra, .inr (1, [.ref hp, .ref ah, .ref am, .ref at_, .ref asp, .ref afa, .ref ado, .ref adt, .ref aor, .int (nI cr), .int (nI o1), .int (nI n1), .int (nI ba), .int (nI pl), .int (nI (tk + 1)), .long (znext rr)])), (hp, .inr (0, [.int (nI n), .ref aw, .ref av, .ref az, .ref af])), (aw, .inl (cI, 16, .inl wk)), (az, .inl (cZ, 16, .inl se)), (af, .inl (cI, 16, .inl fl)), (ah, .inl (cI, 16, .inl h1)), (am, .inl (cI, 16, .inl (upd mv w9 ((mv w9) + 1)))), (at_, .inl (cI, 16, .inl (upd (upd tt j (tt j + 1)) j 0))), (asp, .inl (cI, 16, .inl (upd sp j (sp j + 1)))), (afa, .inl (cI, 16, .inl (upd fa j (fa j + 1)))), (ado, .inl (cI, 16, .inl dr)), (adt, .inl (cI, 16, .inl dt)), (aor, .inl (cI, 16, .inl od))]) [6, 7, 8, 0, 9, 5, 1, 10, 11, 12, 2, 3, 4] (by decide) rfl
      exact z_vret hx hb hr hlocks hP hK hD hS zd_Q_oneTick_116 (by decide) (by decide) ⟨_, _, _, _, _, _, _, _, _, _, _, _, _, _, rfl, by rw [zstep_of hwho, hx1, zwork_2 (by omega) ej ha9 hb9], hh1⟩
    · have hP : va_P (dC, dI) zcl [(az, .inl (cZ, 16, .inl se)), (am, .inl (cI, 16, .inl (upd mv w9 ((mv w9) + 1)))), (ado, .inl (cI, 16, .inl dr)), (adt, .inl (cI, 16, .inl dt)), (aor, .inl (cI, 16, .inl od)), (ah, .inl (cI, 16, .inl h1)), (ra, .inr (1, [.ref hp, .ref ah, .ref am, .ref at_, .ref asp, .ref afa, .ref ado, .ref adt, .ref aor, .int (nI cr), .int (nI o1), .int (nI n1), .int (nI ba), .int (nI pl), .int (nI (tk + 1)), .long (znext rr)])), (hp, .inr (0, [.int (nI n), .ref aw, .ref av, .ref az, .ref af])), (aw, .inl (cI, 16, .inl wk)), (af, .inl (cI, 16, .inl fl)), (at_, .inl (cI, 16, .inl (upd (upd tt j (tt j + 1)) j 0))), (asp, .inl (cI, 16, .inl (upd sp j (sp j + 1)))), (afa, .inl (cI, 16, .inl fa))] H := hP
      have hD : va_D A [(az, .inl (cZ, 16, .inl se)), (am, .inl (cI, 16, .inl (upd mv w9 ((mv w9) + 1)))), (ado, .inl (cI, 16, .inl dr)), (adt, .inl (cI, 16, .inl dt)), (aor, .inl (cI, 16, .inl od)), (ah, .inl (cI, 16, .inl h1)), (ra, .inr (1, [.ref hp, .ref ah, .ref am, .ref at_, .ref asp, .ref afa, .ref ado, .ref adt, .ref aor, .int (nI cr), .int (nI o1), .int (nI n1), .int (nI ba), .int (nI pl), .int (nI (tk + 1)), .long (znext rr)])), (hp, .inr (0, [.int (nI n), .ref aw, .ref av, .ref az, .ref af])), (aw, .inl (cI, 16, .inl wk)), (af, .inl (cI, 16, .inl fl)), (at_, .inl (cI, 16, .inl (upd (upd tt j (tt j + 1)) j 0))), (asp, .inl (cI, 16, .inl (upd sp j (sp j + 1)))), (afa, .inl (cI, 16, .inl fa))] := hD
      have ha9 := ha6_
      have hb9 := hb7_
      refine lv_istore (lv' := [(5, .int (nI 1)), (4, .int (nI j)), (3, .int (nI w9)), (2, .int (nI ((znext rr).toBitVec.toNat / 2 ^ 33))), (1, .int (nI (zmvs cr ho nx ba))), (0, .ref ra)]) hx hb zd_Q_oneTick_102 hl (by decide) rfl (fun ls hl => ?_)
      refine lv_iload hx hb zd_Q_oneTick_104 (lv_at hl 0 rfl) ?_
      refine lv_if_eq (tgt := 116) hx hb zd_Q_oneTick_106 (by decide) (fun c10_ => absurd c10_ (by decide)) (fun _ => ?_)
      refine lv_aload_n hx hb zd_Q_oneTick_109 rfl (lv_at hl 5 rfl) ?_
      refine lv_iload hx hb zd_Q_oneTick_110 (lv_at hl 1 rfl) ?_
      refine lv_iload_n hx hb zd_Q_oneTick_112 rfl (lv_at hl 2 rfl) ?_
      refine z_Vv (As := [.int (nI j), .int (nI w9)]) (rest := []) (wc := [(ra, .inr (1, [.ref hp, .ref ah, .ref am, .ref at_, .ref asp, .ref afa, .ref ado, .ref adt, .ref aor, .int (nI cr), .int (nI o1), .int (nI n1), .int (nI ba), .int (nI pl), .int (nI (tk + 1)), .long (znext rr)])), (hp, .inr (0, [.int (nI n), .ref aw, .ref av, .ref az, .ref af])), (az, .inl (cZ, 16, .inl se)), (ah, .inl (cI, 16, .inl h1)), (ado, .inl (cI, 16, .inl dr)), (adt, .inl (cI, 16, .inl dt)), (aor, .inl (cI, 16, .inl od))]) (wr := [(am, .inl (cI, 16, .inl (upd mv w9 ((mv w9) + 1)))), (aw, .inl (cI, 16, .inl wk)), (af, .inl (cI, 16, .inl fl)), (at_, .inl (cI, 16, .inl (upd (upd tt j (tt j + 1)) j 0))), (asp, .inl (cI, 16, .inl (upd sp j (sp j + 1)))), (afa, .inl (cI, 16, .inl fa))]) ⟨hx, hb, hml, hown, htz⟩ hK hP hD hS hA (k_Race_finish_k l dC dI cI cJ cZ ra hp ah am at_ asp afa ado adt aor cr o1 n1 ba pl (tk + 1) (znext rr) aw av az af n se h1 dr dt od j w9 (by first | assumption | omega) (by first | assumption | omega) (by first | assumption | omega) (by first | assumption | omega) (by have := zcnt_pos (f := h1) cr hwlt (by rw [ej]; exact nI_nm1 (by omega)); omega) (by first | assumption | omega) H.size) (zcwV 2 htz zq_316 zq_313 zq_315 zp_9 zq_5 (by decide +kernel) ⟨Nat.le_of_ble_eq_true rfl, Nat.le_of_ble_eq_true rfl⟩) 6 1 rfl rfl [6, 7, 0, 5, 2, 3, 4] [1, 8, 9, 10, 11, 12] rfl rfl rfl (by decide) rfl hl.1 rfl (Nat.le_of_ble_eq_true rfl) zd_Q_oneTick_113 ⟨Nat.le_of_ble_eq_true rfl, Nat.le_of_ble_eq_true rfl⟩ (fun u H locs hw hP hD hS => ?_)
      rcases hw with ⟨h211_, rfl, hk12_, hs13_⟩ | ⟨h214_, rfl, hk15_, hs16_⟩
      · have hP : va_P (dC, dI) zcl [(am, .inl (cI, 16, .inl (upd mv w9 ((mv w9) + 1)))), (aw, .inl (cI, 16, .inl wk)), (af, .inl (cI, 16, .inl fl)), (at_, .inl (cI, 16, .inl (upd (upd tt j (tt j + 1)) j 0))), (asp, .inl (cI, 16, .inl (upd sp j (sp j + 1)))), (afa, .inl (cI, 16, .inl fa)), (ra, .inr (1, [.ref hp, .ref ah, .ref am, .ref at_, .ref asp, .ref afa, .ref ado, .ref adt, .ref aor, .int (nI cr), .int (nI h211_), .int (nI n1), .int (nI ba), .int (nI (pl + 1)), .int (nI (tk + 1)), .long (znext rr)])), (hp, .inr (0, [.int (nI n), .ref aw, .ref av, .ref az, .ref af])), (az, .inl (cZ, 16, .inl se)), (ah, .inl (cI, 16, .inl (upd h1 w9 (-1)))), (ado, .inl (cI, 16, .inl (upd dr j (nI w9)))), (adt, .inl (cI, 16, .inl (upd dt j (nI (tk + 1))))), (aor, .inl (cI, 16, .inl (upd od pl (nI j))))] H := hP
        have hD : va_D A [(am, .inl (cI, 16, .inl (upd mv w9 ((mv w9) + 1)))), (aw, .inl (cI, 16, .inl wk)), (af, .inl (cI, 16, .inl fl)), (at_, .inl (cI, 16, .inl (upd (upd tt j (tt j + 1)) j 0))), (asp, .inl (cI, 16, .inl (upd sp j (sp j + 1)))), (afa, .inl (cI, 16, .inl fa)), (ra, .inr (1, [.ref hp, .ref ah, .ref am, .ref at_, .ref asp, .ref afa, .ref ado, .ref adt, .ref aor, .int (nI cr), .int (nI h211_), .int (nI n1), .int (nI ba), .int (nI (pl + 1)), .int (nI (tk + 1)), .long (znext rr)])), (hp, .inr (0, [.int (nI n), .ref aw, .ref av, .ref az, .ref af])), (az, .inl (cZ, 16, .inl se)), (ah, .inl (cI, 16, .inl (upd h1 w9 (-1)))), (ado, .inl (cI, 16, .inl (upd dr j (nI w9)))), (adt, .inl (cI, 16, .inl (upd dt j (nI (tk + 1))))), (aor, .inl (cI, 16, .inl (upd od pl (nI j))))] := hD
        have hk9 := hk12_
        have hs9 := hs13_
        have hP := hP.sub (ws' := [(ra, .inr (1, [.ref hp, .ref ah, .ref am, .ref at_, .ref asp, .ref afa, .ref ado, .ref adt, .ref aor, .int (nI cr), .int (nI h211_), .int (nI n1), .int (nI ba), .int (nI (pl + 1)), .int (nI (tk + 1)), .long (znext rr)])), (hp, .inr (0, [.int (nI n), .ref aw, .ref av, .ref az, .ref af])), (aw, .inl (cI, 16, .inl wk)), (az, .inl (cZ, 16, .inl se)), (af, .inl (cI, 16, .inl fl)), (ah, .inl (cI, 16, .inl (upd h1 w9 (-1)))), (am, .inl (cI, 16, .inl (upd mv w9 ((mv w9) + 1)))), (at_, .inl (cI, 16, .inl (upd (upd tt j (tt j + 1)) j 0))), (asp, .inl (cI, 16, .inl (upd sp j (sp j + 1)))), (afa, .inl (cI, 16, .inl fa)), (ado, .inl (cI, 16, .inl (upd dr j (nI w9)))), (adt, .inl (cI, 16, .inl (upd dt j (nI (tk + 1))))), (aor, .inl (cI, 16, .inl (upd od pl (nI j))))]) [6, 7, 1, 8, 2, 9, 0, 3, 4, 5, 10, 11, 12] rfl
        have hD := hD.sub (ws' := [(ra, .inr (1, [.ref hp, .ref ah, .ref am, .ref at_, .ref asp, .ref afa, .ref ado, .ref adt, .ref aor, .int (nI cr), .int (nI h211_), .int (nI n1), .int (nI ba), .int (nI (pl + 1)), .int (nI (tk + 1)), .long (znext rr)])), (hp, .inr (0, [.int (nI n), .ref aw, .ref av, .ref az, .ref af])), (aw, .inl (cI, 16, .inl wk)), (az, .inl (cZ, 16, .inl se)), (af, .inl (cI, 16, .inl fl)), (ah, .inl (cI, 16, .inl (upd h1 w9 (-1)))), (am, .inl (cI, 16, .inl (upd mv w9 ((mv w9) + 1)))), (at_, .inl (cI, 16, .inl (upd (upd tt j (tt j + 1)) j 0))), (asp, .inl (cI, 16, .inl (upd sp j (sp j + 1)))), (afa, .inl (cI, 16, .inl fa)), (ado, .inl (cI, 16, .inl (upd dr j (nI w9)))), (adt, .inl (cI, 16, .inl (upd dt j (nI (tk + 1))))), (aor, .inl (cI, 16, .inl (upd od pl (nI j))))]) [6, 7, 1, 8, 2, 9, 0, 3, 4, 5, 10, 11, 12] (by decide) rfl
        exact z_vret hx hb hr hlocks hP hK hD hS zd_Q_oneTick_116 (by decide) (by decide) ⟨_, _, _, _, _, _, _, _, _, _, _, _, _, _, rfl, by rw [zstep_of hwho, hx1, zwork_3 (by omega) ej ha9 hb9 hs9], hk9⟩
      · have hP : va_P (dC, dI) zcl [(am, .inl (cI, 16, .inl (upd mv w9 ((mv w9) + 1)))), (aw, .inl (cI, 16, .inl wk)), (af, .inl (cI, 16, .inl fl)), (at_, .inl (cI, 16, .inl (upd (upd tt j (tt j + 1)) j 0))), (asp, .inl (cI, 16, .inl (upd sp j (sp j + 1)))), (afa, .inl (cI, 16, .inl fa)), (ra, .inr (1, [.ref hp, .ref ah, .ref am, .ref at_, .ref asp, .ref afa, .ref ado, .ref adt, .ref aor, .int (nI cr), .int (nI h214_), .int (nI n1), .int (nI j), .int (nI (pl + 1)), .int (nI (tk + 1)), .long (znext rr)])), (hp, .inr (0, [.int (nI n), .ref aw, .ref av, .ref az, .ref af])), (az, .inl (cZ, 16, .inl se)), (ah, .inl (cI, 16, .inl (zdrop (upd h1 w9 (-1)) cr j))), (ado, .inl (cI, 16, .inl (upd dr j (nI w9)))), (adt, .inl (cI, 16, .inl (upd dt j (nI (tk + 1))))), (aor, .inl (cI, 16, .inl (upd od pl (nI j))))] H := hP
        have hD : va_D A [(am, .inl (cI, 16, .inl (upd mv w9 ((mv w9) + 1)))), (aw, .inl (cI, 16, .inl wk)), (af, .inl (cI, 16, .inl fl)), (at_, .inl (cI, 16, .inl (upd (upd tt j (tt j + 1)) j 0))), (asp, .inl (cI, 16, .inl (upd sp j (sp j + 1)))), (afa, .inl (cI, 16, .inl fa)), (ra, .inr (1, [.ref hp, .ref ah, .ref am, .ref at_, .ref asp, .ref afa, .ref ado, .ref adt, .ref aor, .int (nI cr), .int (nI h214_), .int (nI n1), .int (nI j), .int (nI (pl + 1)), .int (nI (tk + 1)), .long (znext rr)])), (hp, .inr (0, [.int (nI n), .ref aw, .ref av, .ref az, .ref af])), (az, .inl (cZ, 16, .inl se)), (ah, .inl (cI, 16, .inl (zdrop (upd h1 w9 (-1)) cr j))), (ado, .inl (cI, 16, .inl (upd dr j (nI w9)))), (adt, .inl (cI, 16, .inl (upd dt j (nI (tk + 1))))), (aor, .inl (cI, 16, .inl (upd od pl (nI j))))] := hD
        have hk9 := hk15_
        have hs9 := hs16_
        have hP := hP.sub (ws' := [(ra, .inr (1, [.ref hp, .ref ah, .ref am, .ref at_, .ref asp, .ref afa, .ref ado, .ref adt, .ref aor, .int (nI cr), .int (nI h214_), .int (nI n1), .int (nI j), .int (nI (pl + 1)), .int (nI (tk + 1)), .long (znext rr)])), (hp, .inr (0, [.int (nI n), .ref aw, .ref av, .ref az, .ref af])), (aw, .inl (cI, 16, .inl wk)), (az, .inl (cZ, 16, .inl se)), (af, .inl (cI, 16, .inl fl)), (ah, .inl (cI, 16, .inl (zdrop (upd h1 w9 (-1)) cr j))), (am, .inl (cI, 16, .inl (upd mv w9 ((mv w9) + 1)))), (at_, .inl (cI, 16, .inl (upd (upd tt j (tt j + 1)) j 0))), (asp, .inl (cI, 16, .inl (upd sp j (sp j + 1)))), (afa, .inl (cI, 16, .inl fa)), (ado, .inl (cI, 16, .inl (upd dr j (nI w9)))), (adt, .inl (cI, 16, .inl (upd dt j (nI (tk + 1))))), (aor, .inl (cI, 16, .inl (upd od pl (nI j))))]) [6, 7, 1, 8, 2, 9, 0, 3, 4, 5, 10, 11, 12] rfl
        have hD := hD.sub (ws' := [(ra, .inr (1, [.ref hp, .ref ah, .ref am, .ref at_, .ref asp, .ref afa, .ref ado, .ref adt, .ref aor, .int (nI cr), .int (nI h214_), .int (nI n1), .int (nI j), .int (nI (pl + 1)), .int (nI (tk + 1)), .long (znext rr)])), (hp, .inr (0, [.int (nI n), .ref aw, .ref av, .ref az, .ref af])), (aw, .inl (cI, 16, .inl wk)), (az, .inl (cZ, 16, .inl se)), (af, .inl (cI, 16, .inl fl)), (ah, .inl (cI, 16, .inl (zdrop (upd h1 w9 (-1)) cr j))), (am, .inl (cI, 16, .inl (upd mv w9 ((mv w9) + 1)))), (at_, .inl (cI, 16, .inl (upd (upd tt j (tt j + 1)) j 0))), (asp, .inl (cI, 16, .inl (upd sp j (sp j + 1)))), (afa, .inl (cI, 16, .inl fa)), (ado, .inl (cI, 16, .inl (upd dr j (nI w9)))), (adt, .inl (cI, 16, .inl (upd dt j (nI (tk + 1))))), (aor, .inl (cI, 16, .inl (upd od pl (nI j))))]) [6, 7, 1, 8, 2, 9, 0, 3, 4, 5, 10, 11, 12] (by decide) rfl
        exact z_vret hx hb hr hlocks hP hK hD hS zd_Q_oneTick_116 (by decide) (by decide) ⟨_, _, _, _, _, _, _, _, _, _, _, _, _, _, rfl, by rw [zstep_of hwho, hx1, zwork_4 (by omega) ej ha9 hb9 hs9], hk9⟩
  refine lv_aload_n hx hb zd_Q_oneTick_73 rfl (lv_at hl 3 rfl) ?_
  refine va_get (D := (dC, dI)) (ci := 1) (v := .ref ah) (C := zR_Q) (T := zF_Q) (N := 16) hx hb htz zi_Q hown hK hP 12 rfl rfl 1 (by decide) (htz _ zq_62) (fun _ h9 => h9) rfl zd_Q_oneTick_74 ?_
  refine lv_iload_n hx hb zd_Q_oneTick_77 rfl (lv_at hl 0 rfl) ?_
  refine z_iald hx hb hK hP 11 0 rfl rfl (j := w9) (by omega) (by decide) zd_Q_oneTick_78 ?_
  refine lv_iconst (v := (-1)) hx hb zd_Q_oneTick_79 (by decide) ?_
  refine lv_icmp_ne (tgt := 88) hx hb zd_Q_oneTick_80 (by decide) (fun c17_ => ?_) (fun c17_ => ?_)
  · have hfree := c17_
    obtain ⟨j8, hj8, ej8⟩ := (i3 w9 hwlt).resolve_left hfree
    exact jn88 hd nx ho j8 _ _ _ (by first | assumption | exact pk_us) (by omega) (by first | exact ztake_0 hfree | exact ztake_1 hfree) (by first | assumption | (rw [zcnt_on (nI_nm1 (by omega)) cr hwlt hfree]; omega)) (by first | omega | (rw [zcnt_on (nI_nm1 (by omega)) cr hwlt hfree]; omega)) hP hD hS hl
  · have hfree := c17_
    have hwb := hwt hfree
    refine lv_aload_n hx hb zd_Q_oneTick_83 rfl (lv_at hl 3 rfl) ?_
    refine lv_iload_n hx hb zd_Q_oneTick_84 rfl (lv_at hl 0 rfl) ?_
    refine z_Vv (As := [.int (nI w9)]) (rest := []) (wc := [(ra, .inr (1, [.ref hp, .ref ah, .ref am, .ref at_, .ref asp, .ref afa, .ref ado, .ref adt, .ref aor, .int (nI cr), .int (nI ho), .int (nI nx), .int (nI ba), .int (nI pl), .int (nI (tk + 1)), .long (znext rr)])), (ah, .inl (cI, 16, .inl hd))]) (wr := [(hp, .inr (0, [.int (nI n), .ref aw, .ref av, .ref az, .ref af])), (aw, .inl (cI, 16, .inl wk)), (az, .inl (cZ, 16, .inl se)), (af, .inl (cI, 16, .inl fl)), (am, .inl (cI, 16, .inl (upd mv w9 ((mv w9) + 1)))), (at_, .inl (cI, 16, .inl tt)), (asp, .inl (cI, 16, .inl sp)), (afa, .inl (cI, 16, .inl fa)), (ado, .inl (cI, 16, .inl dr)), (adt, .inl (cI, 16, .inl dt)), (aor, .inl (cI, 16, .inl od))]) ⟨hx, hb, hml, hown, htz⟩ hK hP hD hS hA (k_Race_takeNext_k l dC dI cI cJ cZ ra hp ah am at_ asp afa ado adt aor cr ho nx ba pl (tk + 1) (znext rr) hd w9 (by first | assumption | omega) (by first | assumption | omega) (by first | assumption | omega) (by first | assumption | omega) (by first | assumption | omega) H.size) (zcwV 1 htz zq_299 zq_296 zq_298 zp_7 zq_5 (by decide +kernel) ⟨Nat.le_of_ble_eq_true rfl, Nat.le_of_ble_eq_true rfl⟩) 12 1 rfl rfl [12, 11] [0, 1, 2, 3, 4, 5, 6, 7, 8, 9, 10] rfl rfl rfl (by decide) rfl hl.1 rfl (Nat.le_of_ble_eq_true rfl) zd_Q_oneTick_85 ⟨Nat.le_of_ble_eq_true rfl, Nat.le_of_ble_eq_true rfl⟩ (fun u H locs hw hP hD hS => ?_)
    obtain rfl := hw
    have hP : va_P (dC, dI) zcl [(hp, .inr (0, [.int (nI n), .ref aw, .ref av, .ref az, .ref af])), (aw, .inl (cI, 16, .inl wk)), (az, .inl (cZ, 16, .inl se)), (af, .inl (cI, 16, .inl fl)), (am, .inl (cI, 16, .inl (upd mv w9 ((mv w9) + 1)))), (at_, .inl (cI, 16, .inl tt)), (asp, .inl (cI, 16, .inl sp)), (afa, .inl (cI, 16, .inl fa)), (ado, .inl (cI, 16, .inl dr)), (adt, .inl (cI, 16, .inl dt)), (aor, .inl (cI, 16, .inl od)), (ra, .inr (1, [.ref hp, .ref ah, .ref am, .ref at_, .ref asp, .ref afa, .ref ado, .ref adt, .ref aor, .int (nI cr), .int (nI (ho + 1)), .int (nI (nx + 1)), .int (nI ba), .int (nI pl), .int (nI (tk + 1)), .long (znext rr)])), (ah, .inl (cI, 16, .inl (upd hd w9 (nI nx))))] H := hP
    have hD : va_D A [(hp, .inr (0, [.int (nI n), .ref aw, .ref av, .ref az, .ref af])), (aw, .inl (cI, 16, .inl wk)), (az, .inl (cZ, 16, .inl se)), (af, .inl (cI, 16, .inl fl)), (am, .inl (cI, 16, .inl (upd mv w9 ((mv w9) + 1)))), (at_, .inl (cI, 16, .inl tt)), (asp, .inl (cI, 16, .inl sp)), (afa, .inl (cI, 16, .inl fa)), (ado, .inl (cI, 16, .inl dr)), (adt, .inl (cI, 16, .inl dt)), (aor, .inl (cI, 16, .inl od)), (ra, .inr (1, [.ref hp, .ref ah, .ref am, .ref at_, .ref asp, .ref afa, .ref ado, .ref adt, .ref aor, .int (nI cr), .int (nI (ho + 1)), .int (nI (nx + 1)), .int (nI ba), .int (nI pl), .int (nI (tk + 1)), .long (znext rr)])), (ah, .inl (cI, 16, .inl (upd hd w9 (nI nx))))] := hD
    exact jn88 (upd hd w9 (nI nx)) (nx + 1) (ho + 1) nx _ _ _ (by first | assumption | exact pk_us) (by omega) (by first | exact ztake_0 hfree | exact ztake_1 hfree) (by first | assumption | (rw [zcnt_on (nI_nm1 (by omega)) cr hwlt hfree]; omega)) (by first | omega | (rw [zcnt_on (nI_nm1 (by omega)) cr hwlt hfree]; omega)) (hP.sub [0, 1, 2, 3, 4, 5, 6, 7, 8, 9, 10, 12, 11] rfl) (hD.sub [0, 1, 2, 3, 4, 5, 6, 7, 8, 9, 10, 12, 11] (by decide) rfl) hS hl
set_option maxHeartbeats 4000000 in
set_option maxRecDepth 100000 in
/--  -/
theorem k_Race_endsWithin (l : Launch) (dC : Nat → ClassId) (dI : Nat → Nat → Nat) (cI cJ cZ : ClassId) (ra : Nat) (hp : Nat) (ah : Nat) (am : Nat) (at_ : Nat) (asp : Nat) (afa : Nat) (ado : Nat) (adt : Nat) (aor : Nat) (cr : Nat) (ho : Nat) (nx : Nat) (ba : Nat) (pl : Nat) (tk : Nat) (rr : Int64) (aw : Nat) (av : Nat) (az : Nat) (af : Nat) (n : Nat) (wk : Nat → Int32) (se : Nat → Int32) (fl : Nat → Int32) (hd : Nat → Int32) (mv : Nat → Int32) (tt : Nat → Int32) (sp : Nat → Int32) (fa : Nat → Int32) (dr : Nat → Int32) (dt : Nat → Int32) (od : Nat → Int32) (L : Nat) (hn : n ≤ 16) (hc : cr ≤ 16) (hL : L ≤ 10000) (hinv : zinv n cr (hd, mv, tt, sp, fa, dr, dt, od, nx, ba, pl, tk, rr)) (hh : ho = zcnt hd cr) (sz : Nat) : zMi l zy_Q_endsWithin zw_Q_endsWithin ({ frames := 5, cells := 0, slots := 0, locals := 111 }) [.ref ra, .int (nI L)] (dC, dI) zcl [(cI, .int), (cJ, .long), (cZ, .boolean)] [(ra, .inr (1, [.ref hp, .ref ah, .ref am, .ref at_, .ref asp, .ref afa, .ref ado, .ref adt, .ref aor, .int (nI cr), .int (nI ho), .int (nI nx), .int (nI ba), .int (nI pl), .int (nI tk), .long rr])), (hp, .inr (0, [.int (nI n), .ref aw, .ref av, .ref az, .ref af])), (aw, .inl (cI, 16, .inl wk)), (az, .inl (cZ, 16, .inl se)), (af, .inl (cI, 16, .inl fl)), (ah, .inl (cI, 16, .inl hd)), (am, .inl (cI, 16, .inl mv)), (at_, .inl (cI, 16, .inl tt)), (asp, .inl (cI, 16, .inl sp)), (afa, .inl (cI, 16, .inl fa)), (ado, .inl (cI, 16, .inl dr)), (adt, .inl (cI, 16, .inl dt)), (aor, .inl (cI, 16, .inl od))] sz (fun (r : Int32) (u : va_W) => (∃ (hd2 : ZA) (mv2 : ZA) (tt2 : ZA) (sp2 : ZA) (fa2 : ZA) (dr2 : ZA) (dt2 : ZA) (od2 : ZA) (nx2 : Nat) (ba2 : Nat) (pl2 : Nat) (tk2 : Nat) (ho2 : Nat) (rr2 : Int64), r = nI 1 ∧ u = [(ra, .inr (1, [.ref hp, .ref ah, .ref am, .ref at_, .ref asp, .ref afa, .ref ado, .ref adt, .ref aor, .int (nI cr), .int (nI ho2), .int (nI nx2), .int (nI ba2), .int (nI pl2), .int (nI tk2), .long rr2])), (hp, .inr (0, [.int (nI n), .ref aw, .ref av, .ref az, .ref af])), (aw, .inl (cI, 16, .inl wk)), (az, .inl (cZ, 16, .inl se)), (af, .inl (cI, 16, .inl fl)), (ah, .inl (cI, 16, .inl hd2)), (am, .inl (cI, 16, .inl mv2)), (at_, .inl (cI, 16, .inl tt2)), (asp, .inl (cI, 16, .inl sp2)), (afa, .inl (cI, 16, .inl fa2)), (ado, .inl (cI, 16, .inl dr2)), (adt, .inl (cI, 16, .inl dt2)), (aor, .inl (cI, 16, .inl od2))] ∧ (hd2, mv2, tt2, sp2, fa2, dr2, dt2, od2, nx2, ba2, pl2, tk2, rr2) = ziter cr wk se fl L (hd, mv, tt, sp, fa, dr, dt, od, nx, ba, pl, tk, rr) ∧ zinv n cr (hd2, mv2, tt2, sp2, fa2, dr2, dt2, od2, nx2, ba2, pl2, tk2, rr2) ∧ zmv cr (hd2, mv2, tt2, sp2, fa2, dr2, dt2, od2, nx2, ba2, pl2, tk2, rr2) = 0 ∧ ho2 = zcnt hd2 cr) ∨ (∃ (hd2 : ZA) (mv2 : ZA) (tt2 : ZA) (sp2 : ZA) (fa2 : ZA) (dr2 : ZA) (dt2 : ZA) (od2 : ZA) (nx2 : Nat) (ba2 : Nat) (pl2 : Nat) (tk2 : Nat) (ho2 : Nat) (rr2 : Int64), r = nI 0 ∧ u = [(ra, .inr (1, [.ref hp, .ref ah, .ref am, .ref at_, .ref asp, .ref afa, .ref ado, .ref adt, .ref aor, .int (nI cr), .int (nI ho2), .int (nI nx2), .int (nI ba2), .int (nI pl2), .int (nI tk2), .long rr2])), (hp, .inr (0, [.int (nI n), .ref aw, .ref av, .ref az, .ref af])), (aw, .inl (cI, 16, .inl wk)), (az, .inl (cZ, 16, .inl se)), (af, .inl (cI, 16, .inl fl)), (ah, .inl (cI, 16, .inl hd2)), (am, .inl (cI, 16, .inl mv2)), (at_, .inl (cI, 16, .inl tt2)), (asp, .inl (cI, 16, .inl sp2)), (afa, .inl (cI, 16, .inl fa2)), (ado, .inl (cI, 16, .inl dr2)), (adt, .inl (cI, 16, .inl dt2)), (aor, .inl (cI, 16, .inl od2))] ∧ (hd2, mv2, tt2, sp2, fa2, dr2, dt2, od2, nx2, ba2, pl2, tk2, rr2) = ziter cr wk se fl L (hd, mv, tt, sp, fa, dr, dt, od, nx, ba, pl, tk, rr) ∧ zinv n cr (hd2, mv2, tt2, sp2, fa2, dr2, dt2, od2, nx2, ba2, pl2, tk2, rr2) ∧ zmv cr (hd2, mv2, tt2, sp2, fa2, dr2, dt2, od2, nx2, ba2, pl2, tk2, rr2) ≠ 0 ∧ ho2 = zcnt hd2 cr)) := by
  refine z_ofi (cc := zc_Q_endsWithin) (maxL := 3) (ret := (some .boolean)) (by decide) rfl (Nat.le_of_ble_eq_true rfl) ?_
  intro p e s m below meth c A ls hx hb hr hml hown htz hlocks hin hA hP hK hD hS hl
  have hown : s.vm.findClass zR_Q = some m.cls := hown
  have hl : lv_has ls 3 [(0, .ref ra), (1, .int (nI L))] := hl
  refine lv_iconst (v := (nI 0)) hx hb zd_Q_endsWithin_0 (by decide) ?_
  refine lv_istore_n (lv' := [(2, .int (nI 0)), (0, .ref ra), (1, .int (nI L))]) hx hb zd_Q_endsWithin_1 rfl hl (by decide) rfl (fun ls hl => ?_)
  have lp2 : ∀ (fuel : Nat) (k : Nat) (hd1 : ZA) (mv1 : ZA) (tt1 : ZA) (sp1 : ZA) (fa1 : ZA) (dr1 : ZA) (dt1 : ZA) (od1 : ZA) (nx1 : Nat) (ba1 : Nat) (pl1 : Nat) (tk1 : Nat) (ho1 : Nat) (rr1 : Int64) (H : Heap) (locs : List Loc) (ls : Array Slot), (k ≤ L) → (zinv n cr (hd1, mv1, tt1, sp1, fa1, dr1, dt1, od1, nx1, ba1, pl1, tk1, rr1)) → (ho1 = zcnt hd1 cr) → (ziter cr wk se fl (L - k) (hd1, mv1, tt1, sp1, fa1, dr1, dt1, od1, nx1, ba1, pl1, tk1, rr1) = ziter cr wk se fl L (hd, mv, tt, sp, fa, dr, dt, od, nx, ba, pl, tk, rr)) → L - k < fuel → va_P (dC, dI) zcl [(ra, .inr (1, [.ref hp, .ref ah, .ref am, .ref at_, .ref asp, .ref afa, .ref ado, .ref adt, .ref aor, .int (nI cr), .int (nI ho1), .int (nI nx1), .int (nI ba1), .int (nI pl1), .int (nI tk1), .long rr1])), (hp, .inr (0, [.int (nI n), .ref aw, .ref av, .ref az, .ref af])), (aw, .inl (cI, 16, .inl wk)), (az, .inl (cZ, 16, .inl se)), (af, .inl (cI, 16, .inl fl)), (ah, .inl (cI, 16, .inl hd1)), (am, .inl (cI, 16, .inl mv1)), (at_, .inl (cI, 16, .inl tt1)), (asp, .inl (cI, 16, .inl sp1)), (afa, .inl (cI, 16, .inl fa1)), (ado, .inl (cI, 16, .inl dr1)), (adt, .inl (cI, 16, .inl dt1)), (aor, .inl (cI, 16, .inl od1))] H → va_D A [(ra, .inr (1, [.ref hp, .ref ah, .ref am, .ref at_, .ref asp, .ref afa, .ref ado, .ref adt, .ref aor, .int (nI cr), .int (nI ho1), .int (nI nx1), .int (nI ba1), .int (nI pl1), .int (nI tk1), .long rr1])), (hp, .inr (0, [.int (nI n), .ref aw, .ref av, .ref az, .ref af])), (aw, .inl (cI, 16, .inl wk)), (az, .inl (cZ, 16, .inl se)), (af, .inl (cI, 16, .inl fl)), (ah, .inl (cI, 16, .inl hd1)), (am, .inl (cI, 16, .inl mv1)), (at_, .inl (cI, 16, .inl tt1)), (asp, .inl (cI, 16, .inl sp1)), (afa, .inl (cI, 16, .inl fa1)), (ado, .inl (cI, 16, .inl dr1)), (adt, .inl (cI, 16, .inl dt1)), (aor, .inl (cI, 16, .inl od1))] → va_S A s.heap H locs → lv_has ls 3 [(2, .int (nI k)), (0, .ref ra), (1, .int (nI L))] → W p l e ({ frames := 5, cells := 0, slots := 0, locals := 111 } : Room) s m [.ref ra, .int (nI L)].toArray below meth c H locs 0 0 (MQ below (va_Qi (fun (r : Int32) (u : va_W) => (∃ (hd2 : ZA) (mv2 : ZA) (tt2 : ZA) (sp2 : ZA) (fa2 : ZA) (dr2 : ZA) (dt2 : ZA) (od2 : ZA) (nx2 : Nat) (ba2 : Nat) (pl2 : Nat) (tk2 : Nat) (ho2 : Nat) (rr2 : Int64), r = nI 1 ∧ u = [(ra, .inr (1, [.ref hp, .ref ah, .ref am, .ref at_, .ref asp, .ref afa, .ref ado, .ref adt, .ref aor, .int (nI cr), .int (nI ho2), .int (nI nx2), .int (nI ba2), .int (nI pl2), .int (nI tk2), .long rr2])), (hp, .inr (0, [.int (nI n), .ref aw, .ref av, .ref az, .ref af])), (aw, .inl (cI, 16, .inl wk)), (az, .inl (cZ, 16, .inl se)), (af, .inl (cI, 16, .inl fl)), (ah, .inl (cI, 16, .inl hd2)), (am, .inl (cI, 16, .inl mv2)), (at_, .inl (cI, 16, .inl tt2)), (asp, .inl (cI, 16, .inl sp2)), (afa, .inl (cI, 16, .inl fa2)), (ado, .inl (cI, 16, .inl dr2)), (adt, .inl (cI, 16, .inl dt2)), (aor, .inl (cI, 16, .inl od2))] ∧ (hd2, mv2, tt2, sp2, fa2, dr2, dt2, od2, nx2, ba2, pl2, tk2, rr2) = ziter cr wk se fl L (hd, mv, tt, sp, fa, dr, dt, od, nx, ba, pl, tk, rr) ∧ zinv n cr (hd2, mv2, tt2, sp2, fa2, dr2, dt2, od2, nx2, ba2, pl2, tk2, rr2) ∧ zmv cr (hd2, mv2, tt2, sp2, fa2, dr2, dt2, od2, nx2, ba2, pl2, tk2, rr2) = 0 ∧ ho2 = zcnt hd2 cr) ∨ (∃ (hd2 : ZA) (mv2 : ZA) (tt2 : ZA) (sp2 : ZA) (fa2 : ZA) (dr2 : ZA) (dt2 : ZA) (od2 : ZA) (nx2 : Nat) (ba2 : Nat) (pl2 : Nat) (tk2 : Nat) (ho2 : Nat) (rr2 : Int64), r = nI 0 ∧ u = [(ra, .inr (1, [.ref hp, .ref ah, .ref am, .ref at_, .ref asp, .ref afa, .ref ado, .ref adt, .ref aor, .int (nI cr), .int (nI ho2), .int (nI nx2), .int (nI ba2), .int (nI pl2), .int (nI tk2), .long rr2])), (hp, .inr (0, [.int (nI n), .ref aw, .ref av, .ref az, .ref af])), (aw, .inl (cI, 16, .inl wk)), (az, .inl (cZ, 16, .inl se)), (af, .inl (cI, 16, .inl fl)), (ah, .inl (cI, 16, .inl hd2)), (am, .inl (cI, 16, .inl mv2)), (at_, .inl (cI, 16, .inl tt2)), (asp, .inl (cI, 16, .inl sp2)), (afa, .inl (cI, 16, .inl fa2)), (ado, .inl (cI, 16, .inl dr2)), (adt, .inl (cI, 16, .inl dt2)), (aor, .inl (cI, 16, .inl od2))] ∧ (hd2, mv2, tt2, sp2, fa2, dr2, dt2, od2, nx2, ba2, pl2, tk2, rr2) = ziter cr wk se fl L (hd, mv, tt, sp, fa, dr, dt, od, nx, ba, pl, tk, rr) ∧ zinv n cr (hd2, mv2, tt2, sp2, fa2, dr2, dt2, od2, nx2, ba2, pl2, tk2, rr2) ∧ zmv cr (hd2, mv2, tt2, sp2, fa2, dr2, dt2, od2, nx2, ba2, pl2, tk2, rr2) ≠ 0 ∧ ho2 = zcnt hd2 cr)) (zAt (dC, dI) zcl [(cI, .int), (cJ, .long), (cZ, .boolean)] A) A) [.ref ra, .int (nI L)].toArray s 0 0 A) (F0 m 2 ls []) := by
    intro fuel
    induction fuel with
    | zero => intro k hd1 mv1 tt1 sp1 fa1 dr1 dt1 od1 nx1 ba1 pl1 tk1 ho1 rr1 H locs ls hk hi1 ho1_ hit hf; exact absurd hf (Nat.not_lt_zero _)
    | succ fuel ih =>
      intro k hd1 mv1 tt1 sp1 fa1 dr1 dt1 od1 nx1 ba1 pl1 tk1 ho1 rr1 H locs ls hk hi1 ho1_ hit hf hP hD hS hl
      obtain ⟨i1, i2, i3, i4⟩ := id hi1
      have hcl := zcnt_le hd1 cr
      have hmM : zmv cr (hd1, mv1, tt1, sp1, fa1, dr1, dt1, od1, nx1, ba1, pl1, tk1, rr1) = zmvs cr ho1 nx1 ba1 := by rw [ho1_]; rfl
      have hm1 : zmvs cr ho1 nx1 ba1 ≤ 16 := by simp only [zmvs]; split <;> omega
      refine lv_iload_n hx hb zd_Q_endsWithin_2 rfl (lv_at hl 0 rfl) ?_
      refine lv_iload_n hx hb zd_Q_endsWithin_3 rfl (lv_at hl 2 rfl) ?_
      refine lv_icmp_ge (tgt := 24) hx hb zd_Q_endsWithin_4 (by decide) (fun c1_ => ?_) (fun c1_ => ?_)
      · have hk2 : k = L := Nat.le_antisymm hk (Nat.le_of_not_lt (fun h => nI_ge h (by omega) c1_))
        have hfin : (hd1, mv1, tt1, sp1, fa1, dr1, dt1, od1, nx1, ba1, pl1, tk1, rr1) = ziter cr wk se fl L (hd, mv, tt, sp, fa, dr, dt, od, nx, ba, pl, tk, rr) := by rw [← hit, hk2, Nat.sub_self]; rfl
        refine lv_aload_n hx hb zd_Q_endsWithin_24 rfl (lv_at hl 1 rfl) ?_
        refine z_Vi (As := []) (rest := []) (wc := [(ra, .inr (1, [.ref hp, .ref ah, .ref am, .ref at_, .ref asp, .ref afa, .ref ado, .ref adt, .ref aor, .int (nI cr), .int (nI ho1), .int (nI nx1), .int (nI ba1), .int (nI pl1), .int (nI tk1), .long rr1]))]) (wr := [(hp, .inr (0, [.int (nI n), .ref aw, .ref av, .ref az, .ref af])), (aw, .inl (cI, 16, .inl wk)), (az, .inl (cZ, 16, .inl se)), (af, .inl (cI, 16, .inl fl)), (ah, .inl (cI, 16, .inl hd1)), (am, .inl (cI, 16, .inl mv1)), (at_, .inl (cI, 16, .inl tt1)), (asp, .inl (cI, 16, .inl sp1)), (afa, .inl (cI, 16, .inl fa1)), (ado, .inl (cI, 16, .inl dr1)), (adt, .inl (cI, 16, .inl dt1)), (aor, .inl (cI, 16, .inl od1))]) ⟨hx, hb, hml, hown, htz⟩ hK hP hD hS hA (k_Race_movers l dC dI cI cJ cZ ra hp ah am at_ asp afa ado adt aor cr ho1 nx1 ba1 pl1 tk1 rr1 (by first | assumption | omega) (by first | assumption | omega) H.size) (zcwV 0 htz zq_277 zq_274 zq_276 zp_3 zq_5 (by decide +kernel) ⟨Nat.le_of_ble_eq_true rfl, Nat.le_of_ble_eq_true rfl⟩) 0 1 rfl rfl [0] [1, 2, 3, 4, 5, 6, 7, 8, 9, 10, 11, 12] rfl rfl rfl (by decide) rfl hl.1 rfl (Nat.le_of_ble_eq_true rfl) zd_Q_endsWithin_25 ⟨Nat.le_of_ble_eq_true rfl, Nat.le_of_ble_eq_true rfl⟩ (fun r u H locs hw hP hD hS => ?_)
        obtain ⟨rfl, rfl⟩ := hw
        have hP : va_P (dC, dI) zcl [(hp, .inr (0, [.int (nI n), .ref aw, .ref av, .ref az, .ref af])), (aw, .inl (cI, 16, .inl wk)), (az, .inl (cZ, 16, .inl se)), (af, .inl (cI, 16, .inl fl)), (ah, .inl (cI, 16, .inl hd1)), (am, .inl (cI, 16, .inl mv1)), (at_, .inl (cI, 16, .inl tt1)), (asp, .inl (cI, 16, .inl sp1)), (afa, .inl (cI, 16, .inl fa1)), (ado, .inl (cI, 16, .inl dr1)), (adt, .inl (cI, 16, .inl dt1)), (aor, .inl (cI, 16, .inl od1)), (ra, .inr (1, [.ref hp, .ref ah, .ref am, .ref at_, .ref asp, .ref afa, .ref ado, .ref adt, .ref aor, .int (nI cr), .int (nI ho1), .int (nI nx1), .int (nI ba1), .int (nI pl1), .int (nI tk1), .long rr1]))] H := hP
        have hD : va_D A [(hp, .inr (0, [.int (nI n), .ref aw, .ref av, .ref az, .ref af])), (aw, .inl (cI, 16, .inl wk)), (az, .inl (cZ, 16, .inl se)), (af, .inl (cI, 16, .inl fl)), (ah, .inl (cI, 16, .inl hd1)), (am, .inl (cI, 16, .inl mv1)), (at_, .inl (cI, 16, .inl tt1)), (asp, .inl (cI, 16, .inl sp1)), (afa, .inl (cI, 16, .inl fa1)), (ado, .inl (cI, 16, .inl dr1)), (adt, .inl (cI, 16, .inl dt1)), (aor, .inl (cI, 16, .inl od1)), (ra, .inr (1, [.ref hp, .ref ah, .ref am, .ref at_, .ref asp, .ref afa, .ref ado, .ref adt, .ref aor, .int (nI cr), .int (nI ho1), .int (nI nx1), .int (nI ba1), .int (nI pl1), .int (nI tk1), .long rr1]))] := hD
        refine lv_if_ne (tgt := 35) hx hb zd_Q_endsWithin_28 (by decide) (fun c2_ => ?_) (fun c2_ => ?_)
        · have hm9 : zmv cr (hd1, mv1, tt1, sp1, fa1, dr1, dt1, od1, nx1, ba1, pl1, tk1, rr1) ≠ 0 := fun h => c2_ (by rw [← hmM, h]; rfl)
          refine lv_iconst (v := (nI 0)) hx hb zd_Q_endsWithin_35 (by decide) ?_
          have hP := hP.sub (ws' := [(ra, .inr (1, [.ref hp, .ref ah, .ref am, .ref at_, .ref asp, .ref afa, .ref ado, .ref adt, .ref aor, .int (nI cr), .int (nI ho1), .int (nI nx1), .int (nI ba1), .int (nI pl1), .int (nI tk1), .long rr1])), (hp, .inr (0, [.int (nI n), .ref aw, .ref av, .ref az, .ref af])), (aw, .inl (cI, 16, .inl wk)), (az, .inl (cZ, 16, .inl se)), (af, .inl (cI, 16, .inl fl)), (ah, .inl (cI, 16, .inl hd1)), (am, .inl (cI, 16, .inl mv1)), (at_, .inl (cI, 16, .inl tt1)), (asp, .inl (cI, 16, .inl sp1)), (afa, .inl (cI, 16, .inl fa1)), (ado, .inl (cI, 16, .inl dr1)), (adt, .inl (cI, 16, .inl dt1)), (aor, .inl (cI, 16, .inl od1))]) [12, 0, 1, 2, 3, 4, 5, 6, 7, 8, 9, 10, 11] rfl
          have hD := hD.sub (ws' := [(ra, .inr (1, [.ref hp, .ref ah, .ref am, .ref at_, .ref asp, .ref afa, .ref ado, .ref adt, .ref aor, .int (nI cr), .int (nI ho1), .int (nI nx1), .int (nI ba1), .int (nI pl1), .int (nI tk1), .long rr1])), (hp, .inr (0, [.int (nI n), .ref aw, .ref av, .ref az, .ref af])), (aw, .inl (cI, 16, .inl wk)), (az, .inl (cZ, 16, .inl se)), (af, .inl (cI, 16, .inl fl)), (ah, .inl (cI, 16, .inl hd1)), (am, .inl (cI, 16, .inl mv1)), (at_, .inl (cI, 16, .inl tt1)), (asp, .inl (cI, 16, .inl sp1)), (afa, .inl (cI, 16, .inl fa1)), (ado, .inl (cI, 16, .inl dr1)), (adt, .inl (cI, 16, .inl dt1)), (aor, .inl (cI, 16, .inl od1))]) [12, 0, 1, 2, 3, 4, 5, 6, 7, 8, 9, 10, 11] (by decide) rfl
          exact z_zret hx hb hr hlocks hP hK hD hS zd_Q_endsWithin_36 (by decide) (by decide) rfl (Or.inr ⟨_, _, _, _, _, _, _, _, _, _, _, _, _, _, rfl, rfl, hfin, hi1, hm9, ho1_⟩)
        · have hm9 : zmv cr (hd1, mv1, tt1, sp1, fa1, dr1, dt1, od1, nx1, ba1, pl1, tk1, rr1) = 0 := by rw [hmM]; exact (nI_eq (b := 0) (by omega) (by decide)).mp c2_
          refine lv_iconst (v := (nI 1)) hx hb zd_Q_endsWithin_31 (by decide) ?_
          refine lv_goto (tgt := 36) hx hb zd_Q_endsWithin_32 (by decide) ?_
          have hP := hP.sub (ws' := [(ra, .inr (1, [.ref hp, .ref ah, .ref am, .ref at_, .ref asp, .ref afa, .ref ado, .ref adt, .ref aor, .int (nI cr), .int (nI ho1), .int (nI nx1), .int (nI ba1), .int (nI pl1), .int (nI tk1), .long rr1])), (hp, .inr (0, [.int (nI n), .ref aw, .ref av, .ref az, .ref af])), (aw, .inl (cI, 16, .inl wk)), (az, .inl (cZ, 16, .inl se)), (af, .inl (cI, 16, .inl fl)), (ah, .inl (cI, 16, .inl hd1)), (am, .inl (cI, 16, .inl mv1)), (at_, .inl (cI, 16, .inl tt1)), (asp, .inl (cI, 16, .inl sp1)), (afa, .inl (cI, 16, .inl fa1)), (ado, .inl (cI, 16, .inl dr1)), (adt, .inl (cI, 16, .inl dt1)), (aor, .inl (cI, 16, .inl od1))]) [12, 0, 1, 2, 3, 4, 5, 6, 7, 8, 9, 10, 11] rfl
          have hD := hD.sub (ws' := [(ra, .inr (1, [.ref hp, .ref ah, .ref am, .ref at_, .ref asp, .ref afa, .ref ado, .ref adt, .ref aor, .int (nI cr), .int (nI ho1), .int (nI nx1), .int (nI ba1), .int (nI pl1), .int (nI tk1), .long rr1])), (hp, .inr (0, [.int (nI n), .ref aw, .ref av, .ref az, .ref af])), (aw, .inl (cI, 16, .inl wk)), (az, .inl (cZ, 16, .inl se)), (af, .inl (cI, 16, .inl fl)), (ah, .inl (cI, 16, .inl hd1)), (am, .inl (cI, 16, .inl mv1)), (at_, .inl (cI, 16, .inl tt1)), (asp, .inl (cI, 16, .inl sp1)), (afa, .inl (cI, 16, .inl fa1)), (ado, .inl (cI, 16, .inl dr1)), (adt, .inl (cI, 16, .inl dt1)), (aor, .inl (cI, 16, .inl od1))]) [12, 0, 1, 2, 3, 4, 5, 6, 7, 8, 9, 10, 11] (by decide) rfl
          exact z_zret hx hb hr hlocks hP hK hD hS zd_Q_endsWithin_36 (by decide) (by decide) rfl (Or.inl ⟨_, _, _, _, _, _, _, _, _, _, _, _, _, _, rfl, rfl, hfin, hi1, hm9, ho1_⟩)
      · have hk2 : k < L := Nat.lt_of_not_le (fun h => c1_ (nI_le h (by omega)))
        refine lv_aload_n hx hb zd_Q_endsWithin_7 rfl (lv_at hl 1 rfl) ?_
        refine z_Vi (As := []) (rest := []) (wc := [(ra, .inr (1, [.ref hp, .ref ah, .ref am, .ref at_, .ref asp, .ref afa, .ref ado, .ref adt, .ref aor, .int (nI cr), .int (nI ho1), .int (nI nx1), .int (nI ba1), .int (nI pl1), .int (nI tk1), .long rr1]))]) (wr := [(hp, .inr (0, [.int (nI n), .ref aw, .ref av, .ref az, .ref af])), (aw, .inl (cI, 16, .inl wk)), (az, .inl (cZ, 16, .inl se)), (af, .inl (cI, 16, .inl fl)), (ah, .inl (cI, 16, .inl hd1)), (am, .inl (cI, 16, .inl mv1)), (at_, .inl (cI, 16, .inl tt1)), (asp, .inl (cI, 16, .inl sp1)), (afa, .inl (cI, 16, .inl fa1)), (ado, .inl (cI, 16, .inl dr1)), (adt, .inl (cI, 16, .inl dt1)), (aor, .inl (cI, 16, .inl od1))]) ⟨hx, hb, hml, hown, htz⟩ hK hP hD hS hA (k_Race_movers l dC dI cI cJ cZ ra hp ah am at_ asp afa ado adt aor cr ho1 nx1 ba1 pl1 tk1 rr1 (by first | assumption | omega) (by first | assumption | omega) H.size) (zcwV 0 htz zq_277 zq_274 zq_276 zp_3 zq_5 (by decide +kernel) ⟨Nat.le_of_ble_eq_true rfl, Nat.le_of_ble_eq_true rfl⟩) 0 1 rfl rfl [0] [1, 2, 3, 4, 5, 6, 7, 8, 9, 10, 11, 12] rfl rfl rfl (by decide) rfl hl.1 rfl (Nat.le_of_ble_eq_true rfl) zd_Q_endsWithin_8 ⟨Nat.le_of_ble_eq_true rfl, Nat.le_of_ble_eq_true rfl⟩ (fun r u H locs hw hP hD hS => ?_)
        obtain ⟨rfl, rfl⟩ := hw
        have hP : va_P (dC, dI) zcl [(hp, .inr (0, [.int (nI n), .ref aw, .ref av, .ref az, .ref af])), (aw, .inl (cI, 16, .inl wk)), (az, .inl (cZ, 16, .inl se)), (af, .inl (cI, 16, .inl fl)), (ah, .inl (cI, 16, .inl hd1)), (am, .inl (cI, 16, .inl mv1)), (at_, .inl (cI, 16, .inl tt1)), (asp, .inl (cI, 16, .inl sp1)), (afa, .inl (cI, 16, .inl fa1)), (ado, .inl (cI, 16, .inl dr1)), (adt, .inl (cI, 16, .inl dt1)), (aor, .inl (cI, 16, .inl od1)), (ra, .inr (1, [.ref hp, .ref ah, .ref am, .ref at_, .ref asp, .ref afa, .ref ado, .ref adt, .ref aor, .int (nI cr), .int (nI ho1), .int (nI nx1), .int (nI ba1), .int (nI pl1), .int (nI tk1), .long rr1]))] H := hP
        have hD : va_D A [(hp, .inr (0, [.int (nI n), .ref aw, .ref av, .ref az, .ref af])), (aw, .inl (cI, 16, .inl wk)), (az, .inl (cZ, 16, .inl se)), (af, .inl (cI, 16, .inl fl)), (ah, .inl (cI, 16, .inl hd1)), (am, .inl (cI, 16, .inl mv1)), (at_, .inl (cI, 16, .inl tt1)), (asp, .inl (cI, 16, .inl sp1)), (afa, .inl (cI, 16, .inl fa1)), (ado, .inl (cI, 16, .inl dr1)), (adt, .inl (cI, 16, .inl dt1)), (aor, .inl (cI, 16, .inl od1)), (ra, .inr (1, [.ref hp, .ref ah, .ref am, .ref at_, .ref asp, .ref afa, .ref ado, .ref adt, .ref aor, .int (nI cr), .int (nI ho1), .int (nI nx1), .int (nI ba1), .int (nI pl1), .int (nI tk1), .long rr1]))] := hD
        refine lv_if_le (tgt := 24) hx hb zd_Q_endsWithin_11 (by decide) (fun c3_ => ?_) (fun c3_ => ?_)
        · have hm8 : zmv cr (hd1, mv1, tt1, sp1, fa1, dr1, dt1, od1, nx1, ba1, pl1, tk1, rr1) = 0 := by rw [hmM]; exact z_le0 (by omega) c3_
          have hfin : (hd1, mv1, tt1, sp1, fa1, dr1, dt1, od1, nx1, ba1, pl1, tk1, rr1) = ziter cr wk se fl L (hd, mv, tt, sp, fa, dr, dt, od, nx, ba, pl, tk, rr) := by rw [← hit, ziter_end hm8]
          refine lv_aload_n hx hb zd_Q_endsWithin_24 rfl (lv_at hl 1 rfl) ?_
          refine z_Vi (As := []) (rest := []) (wc := [(ra, .inr (1, [.ref hp, .ref ah, .ref am, .ref at_, .ref asp, .ref afa, .ref ado, .ref adt, .ref aor, .int (nI cr), .int (nI ho1), .int (nI nx1), .int (nI ba1), .int (nI pl1), .int (nI tk1), .long rr1]))]) (wr := [(hp, .inr (0, [.int (nI n), .ref aw, .ref av, .ref az, .ref af])), (aw, .inl (cI, 16, .inl wk)), (az, .inl (cZ, 16, .inl se)), (af, .inl (cI, 16, .inl fl)), (ah, .inl (cI, 16, .inl hd1)), (am, .inl (cI, 16, .inl mv1)), (at_, .inl (cI, 16, .inl tt1)), (asp, .inl (cI, 16, .inl sp1)), (afa, .inl (cI, 16, .inl fa1)), (ado, .inl (cI, 16, .inl dr1)), (adt, .inl (cI, 16, .inl dt1)), (aor, .inl (cI, 16, .inl od1))]) ⟨hx, hb, hml, hown, htz⟩ hK hP hD hS hA (k_Race_movers l dC dI cI cJ cZ ra hp ah am at_ asp afa ado adt aor cr ho1 nx1 ba1 pl1 tk1 rr1 (by first | assumption | omega) (by first | assumption | omega) H.size) (zcwV 0 htz zq_277 zq_274 zq_276 zp_3 zq_5 (by decide +kernel) ⟨Nat.le_of_ble_eq_true rfl, Nat.le_of_ble_eq_true rfl⟩) 12 1 rfl rfl [12] [0, 1, 2, 3, 4, 5, 6, 7, 8, 9, 10, 11] rfl rfl rfl (by decide) rfl hl.1 rfl (Nat.le_of_ble_eq_true rfl) zd_Q_endsWithin_25 ⟨Nat.le_of_ble_eq_true rfl, Nat.le_of_ble_eq_true rfl⟩ (fun r u H locs hw hP hD hS => ?_)
          obtain ⟨rfl, rfl⟩ := hw
          have hP : va_P (dC, dI) zcl [(hp, .inr (0, [.int (nI n), .ref aw, .ref av, .ref az, .ref af])), (aw, .inl (cI, 16, .inl wk)), (az, .inl (cZ, 16, .inl se)), (af, .inl (cI, 16, .inl fl)), (ah, .inl (cI, 16, .inl hd1)), (am, .inl (cI, 16, .inl mv1)), (at_, .inl (cI, 16, .inl tt1)), (asp, .inl (cI, 16, .inl sp1)), (afa, .inl (cI, 16, .inl fa1)), (ado, .inl (cI, 16, .inl dr1)), (adt, .inl (cI, 16, .inl dt1)), (aor, .inl (cI, 16, .inl od1)), (ra, .inr (1, [.ref hp, .ref ah, .ref am, .ref at_, .ref asp, .ref afa, .ref ado, .ref adt, .ref aor, .int (nI cr), .int (nI ho1), .int (nI nx1), .int (nI ba1), .int (nI pl1), .int (nI tk1), .long rr1]))] H := hP
          have hD : va_D A [(hp, .inr (0, [.int (nI n), .ref aw, .ref av, .ref az, .ref af])), (aw, .inl (cI, 16, .inl wk)), (az, .inl (cZ, 16, .inl se)), (af, .inl (cI, 16, .inl fl)), (ah, .inl (cI, 16, .inl hd1)), (am, .inl (cI, 16, .inl mv1)), (at_, .inl (cI, 16, .inl tt1)), (asp, .inl (cI, 16, .inl sp1)), (afa, .inl (cI, 16, .inl fa1)), (ado, .inl (cI, 16, .inl dr1)), (adt, .inl (cI, 16, .inl dt1)), (aor, .inl (cI, 16, .inl od1)), (ra, .inr (1, [.ref hp, .ref ah, .ref am, .ref at_, .ref asp, .ref afa, .ref ado, .ref adt, .ref aor, .int (nI cr), .int (nI ho1), .int (nI nx1), .int (nI ba1), .int (nI pl1), .int (nI tk1), .long rr1]))] := hD
          refine lv_if_ne (tgt := 35) hx hb zd_Q_endsWithin_28 (by decide) (fun c4_ => ?_) (fun c4_ => ?_)
          · have hm9 : zmv cr (hd1, mv1, tt1, sp1, fa1, dr1, dt1, od1, nx1, ba1, pl1, tk1, rr1) ≠ 0 := fun h => c4_ (by rw [← hmM, h]; rfl)
            refine lv_iconst (v := (nI 0)) hx hb zd_Q_endsWithin_35 (by decide) ?_
            have hP := hP.sub (ws' := [(ra, .inr (1, [.ref hp, .ref ah, .ref am, .ref at_, .ref asp, .ref afa, .ref ado, .ref adt, .ref aor, .int (nI cr), .int (nI ho1), .int (nI nx1), .int (nI ba1), .int (nI pl1), .int (nI tk1), .long rr1])), (hp, .inr (0, [.int (nI n), .ref aw, .ref av, .ref az, .ref af])), (aw, .inl (cI, 16, .inl wk)), (az, .inl (cZ, 16, .inl se)), (af, .inl (cI, 16, .inl fl)), (ah, .inl (cI, 16, .inl hd1)), (am, .inl (cI, 16, .inl mv1)), (at_, .inl (cI, 16, .inl tt1)), (asp, .inl (cI, 16, .inl sp1)), (afa, .inl (cI, 16, .inl fa1)), (ado, .inl (cI, 16, .inl dr1)), (adt, .inl (cI, 16, .inl dt1)), (aor, .inl (cI, 16, .inl od1))]) [12, 0, 1, 2, 3, 4, 5, 6, 7, 8, 9, 10, 11] rfl
            have hD := hD.sub (ws' := [(ra, .inr (1, [.ref hp, .ref ah, .ref am, .ref at_, .ref asp, .ref afa, .ref ado, .ref adt, .ref aor, .int (nI cr), .int (nI ho1), .int (nI nx1), .int (nI ba1), .int (nI pl1), .int (nI tk1), .long rr1])), (hp, .inr (0, [.int (nI n), .ref aw, .ref av, .ref az, .ref af])), (aw, .inl (cI, 16, .inl wk)), (az, .inl (cZ, 16, .inl se)), (af, .inl (cI, 16, .inl fl)), (ah, .inl (cI, 16, .inl hd1)), (am, .inl (cI, 16, .inl mv1)), (at_, .inl (cI, 16, .inl tt1)), (asp, .inl (cI, 16, .inl sp1)), (afa, .inl (cI, 16, .inl fa1)), (ado, .inl (cI, 16, .inl dr1)), (adt, .inl (cI, 16, .inl dt1)), (aor, .inl (cI, 16, .inl od1))]) [12, 0, 1, 2, 3, 4, 5, 6, 7, 8, 9, 10, 11] (by decide) rfl
            exact z_zret hx hb hr hlocks hP hK hD hS zd_Q_endsWithin_36 (by decide) (by decide) rfl (Or.inr ⟨_, _, _, _, _, _, _, _, _, _, _, _, _, _, rfl, rfl, hfin, hi1, hm9, ho1_⟩)
          · have hm9 : zmv cr (hd1, mv1, tt1, sp1, fa1, dr1, dt1, od1, nx1, ba1, pl1, tk1, rr1) = 0 := by rw [hmM]; exact (nI_eq (b := 0) (by omega) (by decide)).mp c4_
            refine lv_iconst (v := (nI 1)) hx hb zd_Q_endsWithin_31 (by decide) ?_
            refine lv_goto (tgt := 36) hx hb zd_Q_endsWithin_32 (by decide) ?_
            have hP := hP.sub (ws' := [(ra, .inr (1, [.ref hp, .ref ah, .ref am, .ref at_, .ref asp, .ref afa, .ref ado, .ref adt, .ref aor, .int (nI cr), .int (nI ho1), .int (nI nx1), .int (nI ba1), .int (nI pl1), .int (nI tk1), .long rr1])), (hp, .inr (0, [.int (nI n), .ref aw, .ref av, .ref az, .ref af])), (aw, .inl (cI, 16, .inl wk)), (az, .inl (cZ, 16, .inl se)), (af, .inl (cI, 16, .inl fl)), (ah, .inl (cI, 16, .inl hd1)), (am, .inl (cI, 16, .inl mv1)), (at_, .inl (cI, 16, .inl tt1)), (asp, .inl (cI, 16, .inl sp1)), (afa, .inl (cI, 16, .inl fa1)), (ado, .inl (cI, 16, .inl dr1)), (adt, .inl (cI, 16, .inl dt1)), (aor, .inl (cI, 16, .inl od1))]) [12, 0, 1, 2, 3, 4, 5, 6, 7, 8, 9, 10, 11] rfl
            have hD := hD.sub (ws' := [(ra, .inr (1, [.ref hp, .ref ah, .ref am, .ref at_, .ref asp, .ref afa, .ref ado, .ref adt, .ref aor, .int (nI cr), .int (nI ho1), .int (nI nx1), .int (nI ba1), .int (nI pl1), .int (nI tk1), .long rr1])), (hp, .inr (0, [.int (nI n), .ref aw, .ref av, .ref az, .ref af])), (aw, .inl (cI, 16, .inl wk)), (az, .inl (cZ, 16, .inl se)), (af, .inl (cI, 16, .inl fl)), (ah, .inl (cI, 16, .inl hd1)), (am, .inl (cI, 16, .inl mv1)), (at_, .inl (cI, 16, .inl tt1)), (asp, .inl (cI, 16, .inl sp1)), (afa, .inl (cI, 16, .inl fa1)), (ado, .inl (cI, 16, .inl dr1)), (adt, .inl (cI, 16, .inl dt1)), (aor, .inl (cI, 16, .inl od1))]) [12, 0, 1, 2, 3, 4, 5, 6, 7, 8, 9, 10, 11] (by decide) rfl
            exact z_zret hx hb hr hlocks hP hK hD hS zd_Q_endsWithin_36 (by decide) (by decide) rfl (Or.inl ⟨_, _, _, _, _, _, _, _, _, _, _, _, _, _, rfl, rfl, hfin, hi1, hm9, ho1_⟩)
        · have hm8 : 0 < zmv cr (hd1, mv1, tt1, sp1, fa1, dr1, dt1, od1, nx1, ba1, pl1, tk1, rr1) := by rw [hmM]; exact z_nle0 c3_
          refine lv_aload_n hx hb zd_Q_endsWithin_14 rfl (lv_at hl 1 rfl) ?_
          refine z_Vv (As := []) (rest := []) (wc := [(ra, .inr (1, [.ref hp, .ref ah, .ref am, .ref at_, .ref asp, .ref afa, .ref ado, .ref adt, .ref aor, .int (nI cr), .int (nI ho1), .int (nI nx1), .int (nI ba1), .int (nI pl1), .int (nI tk1), .long rr1])), (hp, .inr (0, [.int (nI n), .ref aw, .ref av, .ref az, .ref af])), (aw, .inl (cI, 16, .inl wk)), (az, .inl (cZ, 16, .inl se)), (af, .inl (cI, 16, .inl fl)), (ah, .inl (cI, 16, .inl hd1)), (am, .inl (cI, 16, .inl mv1)), (at_, .inl (cI, 16, .inl tt1)), (asp, .inl (cI, 16, .inl sp1)), (afa, .inl (cI, 16, .inl fa1)), (ado, .inl (cI, 16, .inl dr1)), (adt, .inl (cI, 16, .inl dt1)), (aor, .inl (cI, 16, .inl od1))]) (wr := []) ⟨hx, hb, hml, hown, htz⟩ hK hP hD hS hA (k_Race_oneTick l dC dI cI cJ cZ ra hp ah am at_ asp afa ado adt aor cr ho1 nx1 ba1 pl1 tk1 rr1 aw av az af n wk se fl hd1 mv1 tt1 sp1 fa1 dr1 dt1 od1 (by first | assumption | omega) (by first | assumption | omega) hi1 ho1_ hm8 H.size) (zcwV 0 htz zq_285 zq_282 zq_284 zp_5 zq_5 (by decide +kernel) ⟨Nat.le_of_ble_eq_true rfl, Nat.le_of_ble_eq_true rfl⟩) 12 1 rfl rfl [12, 0, 1, 2, 3, 4, 5, 6, 7, 8, 9, 10, 11] [] rfl rfl rfl (by decide) rfl hl.1 rfl (Nat.le_of_ble_eq_true rfl) zd_Q_endsWithin_15 ⟨Nat.le_of_ble_eq_true rfl, Nat.le_of_ble_eq_true rfl⟩ (fun u H locs hw hP hD hS => ?_)
          obtain ⟨hd25_, mv26_, tt27_, sp28_, fa29_, dr210_, dt211_, od212_, nx213_, ba214_, pl215_, tk216_, ho217_, rr218_, rfl, hx19_, hh20_⟩ := hw
          have hP : va_P (dC, dI) zcl [(ra, .inr (1, [.ref hp, .ref ah, .ref am, .ref at_, .ref asp, .ref afa, .ref ado, .ref adt, .ref aor, .int (nI cr), .int (nI ho217_), .int (nI nx213_), .int (nI ba214_), .int (nI pl215_), .int (nI tk216_), .long rr218_])), (hp, .inr (0, [.int (nI n), .ref aw, .ref av, .ref az, .ref af])), (aw, .inl (cI, 16, .inl wk)), (az, .inl (cZ, 16, .inl se)), (af, .inl (cI, 16, .inl fl)), (ah, .inl (cI, 16, .inl hd25_)), (am, .inl (cI, 16, .inl mv26_)), (at_, .inl (cI, 16, .inl tt27_)), (asp, .inl (cI, 16, .inl sp28_)), (afa, .inl (cI, 16, .inl fa29_)), (ado, .inl (cI, 16, .inl dr210_)), (adt, .inl (cI, 16, .inl dt211_)), (aor, .inl (cI, 16, .inl od212_))] H := hP
          have hD : va_D A [(ra, .inr (1, [.ref hp, .ref ah, .ref am, .ref at_, .ref asp, .ref afa, .ref ado, .ref adt, .ref aor, .int (nI cr), .int (nI ho217_), .int (nI nx213_), .int (nI ba214_), .int (nI pl215_), .int (nI tk216_), .long rr218_])), (hp, .inr (0, [.int (nI n), .ref aw, .ref av, .ref az, .ref af])), (aw, .inl (cI, 16, .inl wk)), (az, .inl (cZ, 16, .inl se)), (af, .inl (cI, 16, .inl fl)), (ah, .inl (cI, 16, .inl hd25_)), (am, .inl (cI, 16, .inl mv26_)), (at_, .inl (cI, 16, .inl tt27_)), (asp, .inl (cI, 16, .inl sp28_)), (afa, .inl (cI, 16, .inl fa29_)), (ado, .inl (cI, 16, .inl dr210_)), (adt, .inl (cI, 16, .inl dt211_)), (aor, .inl (cI, 16, .inl od212_))] := hD
          have hx9 := hx19_
          have hh9 := hh20_
          refine lv_iinc (v := (nI (k + 1))) (lv' := [(2, .int (nI (k + 1))), (0, .ref ra), (1, .int (nI L))]) hx hb zd_Q_endsWithin_18 hl (k := 0) rfl (nI_1 k) (by decide) rfl (fun ls hl => ?_)
          refine lv_goto (tgt := 2) hx hb zd_Q_endsWithin_21 (by decide) ?_
          exact ih (k + 1) hd25_ mv26_ tt27_ sp28_ fa29_ dr210_ dt211_ od212_ nx213_ ba214_ pl215_ tk216_ ho217_ rr218_ _ _ _ (by omega) (by rw [hx9]; exact zinv_step hn hi1 hm8) hh9 (by rw [hx9, ← ziter_go (by omega), show L - (k + 1) + 1 = L - k by omega]; exact hit) (by omega) hP hD hS hl
  exact lp2 _ 0 hd mv tt sp fa dr dt od nx ba pl tk ho rr _ _ _ (Nat.zero_le _) hinv hh rfl (Nat.lt_succ_self _) hP hD hS hl
end
section
/-- so many shares: 1 if it is below 1, 16 if it is above 16 -/
def zcp (x : Int32) : Nat := if x < 1 then 1 else if 16 < x then 16 else x.toNatClampNeg
theorem zcp_in (x : Int32) : 1 ≤ zcp x ∧ zcp x ≤ 16 := by
  rcases pk_ix x (n := 17) (by decide) with h | h | ⟨j, hj, rfl⟩
  · have h1 : x < 1 := Int32.lt_trans h (by decide)
    simp only [zcp]; rw [if_pos h1]; omega
  · have h1 : ¬ x < 1 := fun q => absurd (Int32.lt_of_le_of_lt h q) (by decide)
    have h2 : 16 < x := Int32.lt_of_lt_of_le (by decide) h
    simp only [zcp]; rw [if_neg h1, if_pos h2]; omega
  · revert j; decide
theorem z_clamp (sh : Int32) : (if nI 1 < (if sh < nI 16 then sh else nI 16) then (if sh < nI 16 then sh else nI 16) else nI 1) = nI (zcp sh) := by
  rcases pk_ix sh (n := 17) (by decide) with h | h | ⟨j, hj, rfl⟩
  · have h1 : sh < 1 := Int32.lt_trans h (by decide)
    have h2 : sh < nI 16 := Int32.lt_trans h (by decide)
    have h3 : ¬ nI 1 < sh := fun q => absurd (Int32.lt_trans q h) (by decide)
    simp only [zcp]; rw [if_pos h2, if_neg h3, if_pos h1]
  · have h1 : ¬ sh < 1 := fun q => absurd (Int32.lt_of_le_of_lt h q) (by decide)
    have h2 : ¬ sh < nI 16 := fun q => absurd (Int32.lt_of_le_of_lt h q) (by decide)
    have h3 : 16 < sh := Int32.lt_of_lt_of_le (by decide) h
    simp only [zcp]; rw [if_neg h2, if_neg h1, if_pos h3]; decide
  · revert j; decide
theorem z_crew {w : Nat} (h1 : 1 ≤ w) (h2 : w ≤ 16) : (if nI 1 < (if nI w < nI 16 then nI w else nI 16) then (if nI w < nI 16 then nI w else nI 16) else nI 1) = nI w := by
  have : ∀ w, w < 17 → 1 ≤ w → (if nI 1 < (if nI w < nI 16 then nI w else nI 16) then (if nI w < nI 16 then nI w else nI 16) else nI 1) = nI w := by decide
  exact this w (by omega) h1
/-- how many shares are counted -/
def zlast (se : ZA) (n : Nat) : Nat := if zwin se n < n then zwin se n + 1 else n
/-- the ANSWER -/
def zans (se : ZA) (wo : Nat → Int64) (n : Nat) : Int64 := if zwin se n < n then wo (zwin se n) else zsum wo n
theorem z_fillstep {f9 : ZA} {v : Int32} {k : Nat} (hz : ∀ i, i < k → f9 i = v) : ∀ i, i < k + 1 → upd f9 k v i = v := fun i hi => by
  by_cases q : i = k
  · rw [q, pk_us]
  · rw [pk_un q]; exact hz i (by omega)
end
section
set_option maxHeartbeats 4000000 in
set_option maxRecDepth 100000 in
/--  -/
theorem k_Arrays_fill (l : Launch) (dC : Nat → ClassId) (dI : Nat → Nat → Nat) (cI cJ cZ : ClassId) (aa : Nat) (ff : ZA) (v : Int32)  (sz : Nat) : zMv l zy_F_fill zw_F_fill ({ frames := 0, cells := 0, slots := 0, locals := 0 }) [.ref aa, .int v] (dC, dI) zcl [(cI, .int), (cJ, .long), (cZ, .boolean)] [(aa, .inl (cI, 16, .inl ff))] sz (fun (u : va_W) => u = [(aa, .inl (cI, 16, .inl (fun _ => v)))]) := by
  refine z_ofv (cc := zc_F_fill) (maxL := 4) (ret := none) (by decide) rfl (Nat.le_of_ble_eq_true rfl) ?_
  intro p e s m below meth c A ls hx hb hr hml hown htz hlocks hin hA hP hK hD hS hl
  have hown : s.vm.findClass zR_F = some m.cls := hown
  have hl : lv_has ls 4 [(0, .ref aa), (1, .int v)] := hl
  refine lv_iconst (v := (nI 0)) hx hb zd_F_fill_0 (by decide) ?_
  refine lv_istore_n (lv' := [(2, .int (nI 0)), (0, .ref aa), (1, .int v)]) hx hb zd_F_fill_1 rfl hl (by decide) rfl (fun ls hl => ?_)
  refine lv_aload_n hx hb zd_F_fill_2 rfl (lv_at hl 1 rfl) ?_
  refine va_alen (v := nI 16) hx hb hK hP 0 0 rfl rfl rfl zd_F_fill_3 ?_
  refine lv_istore_n (lv' := [(3, .int (nI 16)), (2, .int (nI 0)), (0, .ref aa), (1, .int v)]) hx hb zd_F_fill_4 rfl hl (by decide) rfl (fun ls hl => ?_)
  have lp5 : ∀ (fuel : Nat) (k : Nat) (f9 : ZA) (H : Heap) (locs : List Loc) (ls : Array Slot), (k ≤ 16) → (∀ i, i < k → f9 i = v) → 16 - k < fuel → va_P (dC, dI) zcl [(aa, .inl (cI, 16, .inl f9))] H → va_D A [(aa, .inl (cI, 16, .inl f9))] → va_S A s.heap H locs → lv_has ls 4 [(3, .int (nI 16)), (2, .int (nI k)), (0, .ref aa), (1, .int v)] → W p l e ({ frames := 0, cells := 0, slots := 0, locals := 0 } : Room) s m [.ref aa, .int v].toArray below meth c H locs 0 0 (MQ below (va_Qv (fun (u : va_W) => u = [(aa, .inl (cI, 16, .inl (fun _ => v)))]) (zAt (dC, dI) zcl [(cI, .int), (cJ, .long), (cZ, .boolean)] A) A) [.ref aa, .int v].toArray s 0 0 A) (F0 m 5 ls []) := by
    intro fuel
    induction fuel with
    | zero => intro k f9 H locs ls hk hz hf; exact absurd hf (Nat.not_lt_zero _)
    | succ fuel ih =>
      intro k f9 H locs ls hk hz hf hP hD hS hl
      refine lv_iload_n hx hb zd_F_fill_5 rfl (lv_at hl 1 rfl) ?_
      refine lv_iload_n hx hb zd_F_fill_6 rfl (lv_at hl 0 rfl) ?_
      refine lv_icmp_ge (tgt := 20) hx hb zd_F_fill_7 (by decide) (fun c1_ => ?_) (fun c1_ => ?_)
      · have hk2 : k = 16 := Nat.le_antisymm hk (Nat.le_of_not_lt (fun h => nI_ge h (by decide) c1_))
        subst hk2
        have hP := z_fillP (g := fun _ => v) hz hP
        have hD := z_fillD (y := .inl (cI, 16, .inl (fun _ => v))) hD
        exact z_vret hx hb hr hlocks hP hK hD hS zd_F_fill_20 (by decide) (by decide) rfl
      · have hk2 : k < 16 := Nat.lt_of_not_le (fun h => c1_ (nI_le h (by omega)))
        refine lv_aload_n hx hb zd_F_fill_10 rfl (lv_at hl 2 rfl) ?_
        refine lv_iload_n hx hb zd_F_fill_11 rfl (lv_at hl 1 rfl) ?_
        refine lv_iload_n hx hb zd_F_fill_12 rfl (lv_at hl 3 rfl) ?_
        refine z_iast hx hb hK hP hD hS 0 0 rfl rfl (j := k) (by omega) (by decide) zd_F_fill_13 (fun H locs hP hD hS => ?_)
        have hP : va_P (dC, dI) zcl [(aa, .inl (cI, 16, .inl (upd f9 k v)))] H := hP
        have hD : va_D A [(aa, .inl (cI, 16, .inl (upd f9 k v)))] := hD
        refine lv_iinc (v := (nI (k + 1))) (lv' := [(2, .int (nI (k + 1))), (3, .int (nI 16)), (0, .ref aa), (1, .int v)]) hx hb zd_F_fill_14 hl (k := 1) rfl (nI_1 k) (by decide) rfl (fun ls hl => ?_)
        refine lv_goto (tgt := 5) hx hb zd_F_fill_17 (by decide) ?_
        exact ih (k + 1) (upd f9 k v) _ _ _ (by omega) (z_fillstep hz) (by omega) hP hD hS (lv_sub hl [1, 0, 2, 3] rfl)
  exact lp5 _ 0 ff _ _ _ (Nat.zero_le _) (fun i hi => absurd hi (Nat.not_lt_zero _)) (Nat.lt_succ_self _) hP hD hS hl
set_option maxHeartbeats 4000000 in
set_option maxRecDepth 100000 in
/--  -/
theorem k_Plan_init (l : Launch) (dC : Nat → ClassId) (dI : Nat → Nat → Nat) (cI cJ cZ : ClassId) (hp : Nat) (sh : Int32)  (sz : Nat) : zMv l zy_P_init zw_P_init ({ frames := 1, cells := 4, slots := 64, locals := 23 }) [.ref hp, .int sh] (dC, dI) zcl [(cI, .int), (cJ, .long), (cZ, .boolean)] [(hp, .inr (0, [.int (nI 0), .null, .null, .null, .null]))] sz (fun (u : va_W) => ∃ (aw : Nat) (av : Nat) (az : Nat) (af : Nat), u = [(hp, .inr (0, [.int (nI (zcp sh)), .ref aw, .ref av, .ref az, .ref af])), (aw, .inl (cI, 16, .inl (fun _ => nI 1))), (av, .inl (cJ, 16, .inr (.inl (fun _ => 0)))), (az, .inl (cZ, 16, .inl (fun _ => 0))), (af, .inl (cI, 16, .inl (fun _ => 0)))]) := by
  refine z_ofv (cc := zc_P_init) (maxL := 2) (ret := none) (by decide) rfl (Nat.le_of_ble_eq_true rfl) ?_
  intro p e s m below meth c A ls hx hb hr hml hown htz hlocks hin hA hP hK hD hS hl
  have hown : s.vm.findClass zR_P = some m.cls := hown
  have hl : lv_has ls 2 [(0, .ref hp), (1, .int sh)] := hl
  refine lv_aload_n hx hb zd_P_init_0 rfl (lv_at hl 0 rfl) ?_
  refine W.objInit hx hb hown (htz _ zq_26) (htz _ zq_19) (htz _ zq_20) rfl (by rw [hml]; exact hl.1) rfl zd_P_init_1 (Nat.le_of_ble_eq_true rfl) (Nat.le_of_ble_eq_true rfl) ?_
  refine W.eq (g2 := F0 m 4 ls []) rfl ?_
  refine lv_aload_n hx hb zd_P_init_4 rfl (lv_at hl 0 rfl) ?_
  refine lv_iconst (v := (nI 1)) hx hb zd_P_init_5 (by decide) ?_
  refine lv_bipush (v := (nI 16)) hx hb zd_P_init_6 (by decide) ?_
  refine lv_iload_n hx hb zd_P_init_8 rfl (lv_at hl 1 rfl) ?_
  refine va_mmin hx hb (hml.trans hl.1.symm) hown (htz _ zq_27) (htz _ zq_28) (htz _ zq_3) (htz _ zq_29) (Nat.le_of_ble_eq_true rfl) (Nat.le_of_ble_eq_true rfl) (Nat.le_of_ble_eq_true rfl) (Nat.le_of_ble_eq_true rfl) zd_P_init_9 ?_
  refine va_mmax hx hb (hml.trans hl.1.symm) hown (htz _ zq_30) (htz _ zq_31) (htz _ zq_3) (htz _ zq_32) (Nat.le_of_ble_eq_true rfl) (Nat.le_of_ble_eq_true rfl) (Nat.le_of_ble_eq_true rfl) (Nat.le_of_ble_eq_true rfl) zd_P_init_12 ?_
  refine z_topi (y := nI (zcp sh)) (z_clamp sh) ?_
  refine va_putF (D := (dC, dI)) (ci := 0) (v := .int (nI (zcp sh))) (ty := .int) (C := zR_P) (T := zF_P) (N := 5) hx hb htz zi_P zt_P zt_P_ok zn_P hown hK hP hD hS 0 rfl rfl 0 (by decide) (htz _ zq_36) (fun _ h9 => h9) rfl hin rfl (by decide +kernel) rfl rfl (Nat.le_of_ble_eq_true rfl) zd_P_init_15 (fun H locs hP hD hS => ?_)
  have hP : va_P (dC, dI) zcl [(hp, .inr (0, [.int (nI (zcp sh)), .null, .null, .null, .null]))] H := hP
  have hD : va_D A [(hp, .inr (0, [.int (nI (zcp sh)), .null, .null, .null, .null]))] := hD
  refine lv_aload_n hx hb zd_P_init_18 rfl (lv_at hl 0 rfl) ?_
  refine lv_bipush (v := (nI 16)) hx hb zd_P_init_19 (by decide) ?_
  refine va_newa (atype := .int) (a0 := (16, .inl (fun _ => 0))) (n := nI 16) hx hb (htz _ zq_52) (ty := .int) rfl hK hP hD hS hA (fun _ => rfl) (by decide) (by decide) (by decide) (by decide) (by decide) zd_P_init_21 (fun q1_ cA9 H hK9 hP hD hS => ?_)
  obtain rfl : cI = cA9 := z_same hK9 0 (t1 := 3) rfl rfl (by decide)
  have hP : va_P (dC, dI) zcl [(hp, .inr (0, [.int (nI (zcp sh)), .null, .null, .null, .null])), (q1_, .inl (cI, 16, .inl (fun _ => 0)))] H := hP
  have hD : va_D A [(hp, .inr (0, [.int (nI (zcp sh)), .null, .null, .null, .null])), (q1_, .inl (cI, 16, .inl (fun _ => 0)))] := hD
  refine va_putF (D := (dC, dI)) (ci := 0) (v := .ref q1_) (ty := (.array .int)) (C := zR_P) (T := zF_P) (N := 5) hx hb htz zi_P zt_P zt_P_ok zn_P hown hK hP hD hS 0 rfl rfl 1 (by decide) (htz _ zq_37) (fun _ h9 => h9) rfl hin rfl (by decide +kernel) rfl rfl (Nat.le_of_ble_eq_true rfl) zd_P_init_23 (fun H locs hP hD hS => ?_)
  have hP : va_P (dC, dI) zcl [(hp, .inr (0, [.int (nI (zcp sh)), .ref q1_, .null, .null, .null])), (q1_, .inl (cI, 16, .inl (fun _ => 0)))] H := hP
  have hD : va_D A [(hp, .inr (0, [.int (nI (zcp sh)), .ref q1_, .null, .null, .null])), (q1_, .inl (cI, 16, .inl (fun _ => 0)))] := hD
  refine lv_aload_n hx hb zd_P_init_26 rfl (lv_at hl 0 rfl) ?_
  refine lv_bipush (v := (nI 16)) hx hb zd_P_init_27 (by decide) ?_
  refine va_newa (atype := .long) (a0 := (16, .inr (.inl (fun _ => 0)))) (n := nI 16) hx hb (htz _ zq_53) (ty := .long) rfl hK hP hD hS hA (fun _ => rfl) (by decide) (by decide) (by decide) (by decide) (by decide) zd_P_init_29 (fun q2_ cA9 H hK9 hP hD hS => ?_)
  obtain rfl : cJ = cA9 := z_same hK9 1 (t1 := 3) rfl rfl (by decide)
  have hP : va_P (dC, dI) zcl [(hp, .inr (0, [.int (nI (zcp sh)), .ref q1_, .null, .null, .null])), (q1_, .inl (cI, 16, .inl (fun _ => 0))), (q2_, .inl (cJ, 16, .inr (.inl (fun _ => 0))))] H := hP
  have hD : va_D A [(hp, .inr (0, [.int (nI (zcp sh)), .ref q1_, .null, .null, .null])), (q1_, .inl (cI, 16, .inl (fun _ => 0))), (q2_, .inl (cJ, 16, .inr (.inl (fun _ => 0))))] := hD
  refine va_putF (D := (dC, dI)) (ci := 0) (v := .ref q2_) (ty := (.array .long)) (C := zR_P) (T := zF_P) (N := 5) hx hb htz zi_P zt_P zt_P_ok zn_P hown hK hP hD hS 0 rfl rfl 2 (by decide) (htz _ zq_38) (fun _ h9 => h9) rfl hin rfl (by decide +kernel) rfl rfl (Nat.le_of_ble_eq_true rfl) zd_P_init_31 (fun H locs hP hD hS => ?_)
  have hP : va_P (dC, dI) zcl [(hp, .inr (0, [.int (nI (zcp sh)), .ref q1_, .ref q2_, .null, .null])), (q1_, .inl (cI, 16, .inl (fun _ => 0))), (q2_, .inl (cJ, 16, .inr (.inl (fun _ => 0))))] H := hP
  have hD : va_D A [(hp, .inr (0, [.int (nI (zcp sh)), .ref q1_, .ref q2_, .null, .null])), (q1_, .inl (cI, 16, .inl (fun _ => 0))), (q2_, .inl (cJ, 16, .inr (.inl (fun _ => 0))))] := hD
  refine lv_aload_n hx hb zd_P_init_34 rfl (lv_at hl 0 rfl) ?_
  refine lv_bipush (v := (nI 16)) hx hb zd_P_init_35 (by decide) ?_
  refine va_newa (atype := .boolean) (a0 := (16, .inl (fun _ => 0))) (n := nI 16) hx hb (htz _ zq_54) (ty := .boolean) rfl hK hP hD hS hA (fun _ => rfl) (by decide) (by decide) (by decide) (by decide) (by decide) zd_P_init_37 (fun q3_ cA9 H hK9 hP hD hS => ?_)
  obtain rfl : cZ = cA9 := z_same hK9 2 (t1 := 3) rfl rfl (by decide)
  have hP : va_P (dC, dI) zcl [(hp, .inr (0, [.int (nI (zcp sh)), .ref q1_, .ref q2_, .null, .null])), (q1_, .inl (cI, 16, .inl (fun _ => 0))), (q2_, .inl (cJ, 16, .inr (.inl (fun _ => 0)))), (q3_, .inl (cZ, 16, .inl (fun _ => 0)))] H := hP
  have hD : va_D A [(hp, .inr (0, [.int (nI (zcp sh)), .ref q1_, .ref q2_, .null, .null])), (q1_, .inl (cI, 16, .inl (fun _ => 0))), (q2_, .inl (cJ, 16, .inr (.inl (fun _ => 0)))), (q3_, .inl (cZ, 16, .inl (fun _ => 0)))] := hD
  refine va_putF (D := (dC, dI)) (ci := 0) (v := .ref q3_) (ty := (.array .boolean)) (C := zR_P) (T := zF_P) (N := 5) hx hb htz zi_P zt_P zt_P_ok zn_P hown hK hP hD hS 0 rfl rfl 3 (by decide) (htz _ zq_39) (fun _ h9 => h9) rfl hin rfl (by decide +kernel) rfl rfl (Nat.le_of_ble_eq_true rfl) zd_P_init_39 (fun H locs hP hD hS => ?_)
  have hP : va_P (dC, dI) zcl [(hp, .inr (0, [.int (nI (zcp sh)), .ref q1_, .ref q2_, .ref q3_, .null])), (q1_, .inl (cI, 16, .inl (fun _ => 0))), (q2_, .inl (cJ, 16, .inr (.inl (fun _ => 0)))), (q3_, .inl (cZ, 16, .inl (fun _ => 0)))] H := hP
  have hD : va_D A [(hp, .inr (0, [.int (nI (zcp sh)), .ref q1_, .ref q2_, .ref q3_, .null])), (q1_, .inl (cI, 16, .inl (fun _ => 0))), (q2_, .inl (cJ, 16, .inr (.inl (fun _ => 0)))), (q3_, .inl (cZ, 16, .inl (fun _ => 0)))] := hD
  refine lv_aload_n hx hb zd_P_init_42 rfl (lv_at hl 0 rfl) ?_
  refine lv_bipush (v := (nI 16)) hx hb zd_P_init_43 (by decide) ?_
  refine va_newa (atype := .int) (a0 := (16, .inl (fun _ => 0))) (n := nI 16) hx hb (htz _ zq_52) (ty := .int) rfl hK hP hD hS hA (fun _ => rfl) (by decide) (by decide) (by decide) (by decide) (by decide) zd_P_init_45 (fun q4_ cA9 H hK9 hP hD hS => ?_)
  obtain rfl : cI = cA9 := z_same hK9 0 (t1 := 3) rfl rfl (by decide)
  have hP : va_P (dC, dI) zcl [(hp, .inr (0, [.int (nI (zcp sh)), .ref q1_, .ref q2_, .ref q3_, .null])), (q1_, .inl (cI, 16, .inl (fun _ => 0))), (q2_, .inl (cJ, 16, .inr (.inl (fun _ => 0)))), (q3_, .inl (cZ, 16, .inl (fun _ => 0))), (q4_, .inl (cI, 16, .inl (fun _ => 0)))] H := hP
  have hD : va_D A [(hp, .inr (0, [.int (nI (zcp sh)), .ref q1_, .ref q2_, .ref q3_, .null])), (q1_, .inl (cI, 16, .inl (fun _ => 0))), (q2_, .inl (cJ, 16, .inr (.inl (fun _ => 0)))), (q3_, .inl (cZ, 16, .inl (fun _ => 0))), (q4_, .inl (cI, 16, .inl (fun _ => 0)))] := hD
  refine va_putF (D := (dC, dI)) (ci := 0) (v := .ref q4_) (ty := (.array .int)) (C := zR_P) (T := zF_P) (N := 5) hx hb htz zi_P zt_P zt_P_ok zn_P hown hK hP hD hS 0 rfl rfl 4 (by decide) (htz _ zq_40) (fun _ h9 => h9) rfl hin rfl (by decide +kernel) rfl rfl (Nat.le_of_ble_eq_true rfl) zd_P_init_47 (fun H locs hP hD hS => ?_)
  have hP : va_P (dC, dI) zcl [(hp, .inr (0, [.int (nI (zcp sh)), .ref q1_, .ref q2_, .ref q3_, .ref q4_])), (q1_, .inl (cI, 16, .inl (fun _ => 0))), (q2_, .inl (cJ, 16, .inr (.inl (fun _ => 0)))), (q3_, .inl (cZ, 16, .inl (fun _ => 0))), (q4_, .inl (cI, 16, .inl (fun _ => 0)))] H := hP
  have hD : va_D A [(hp, .inr (0, [.int (nI (zcp sh)), .ref q1_, .ref q2_, .ref q3_, .ref q4_])), (q1_, .inl (cI, 16, .inl (fun _ => 0))), (q2_, .inl (cJ, 16, .inr (.inl (fun _ => 0)))), (q3_, .inl (cZ, 16, .inl (fun _ => 0))), (q4_, .inl (cI, 16, .inl (fun _ => 0)))] := hD
  refine lv_aload_n hx hb zd_P_init_50 rfl (lv_at hl 0 rfl) ?_
  refine va_get (D := (dC, dI)) (ci := 0) (v := .ref q1_) (C := zR_P) (T := zF_P) (N := 5) hx hb htz zi_P hown hK hP 0 rfl rfl 1 (by decide) (htz _ zq_37) (fun _ h9 => h9) rfl zd_P_init_51 ?_
  refine lv_iconst (v := (nI 1)) hx hb zd_P_init_54 (by decide) ?_
  refine z_Sv (As := [.ref q1_, .int (nI 1)]) (rest := []) (wc := [(q1_, .inl (cI, 16, .inl (fun _ => 0)))]) (wr := [(hp, .inr (0, [.int (nI (zcp sh)), .ref q1_, .ref q2_, .ref q3_, .ref q4_])), (q2_, .inl (cJ, 16, .inr (.inl (fun _ => 0)))), (q3_, .inl (cZ, 16, .inl (fun _ => 0))), (q4_, .inl (cI, 16, .inl (fun _ => 0)))]) ⟨hx, hb, hml, hown, htz⟩ hK hP hD hS hA (k_Arrays_fill l dC dI cI cJ cZ q1_ (fun _ => 0) (nI 1) H.size) (zcwS 2 htz zq_35 zq_33 zq_34 zq_4 (by decide +kernel) ⟨Nat.le_of_ble_eq_true rfl, Nat.le_of_ble_eq_true rfl⟩) [1] [0, 2, 3, 4] rfl rfl rfl (by decide) rfl hl.1 rfl (Nat.le_of_ble_eq_true rfl) zd_P_init_55 ⟨Nat.le_of_ble_eq_true rfl, Nat.le_of_ble_eq_true rfl⟩ (fun u H locs hw hP hD hS => ?_)
  obtain rfl := hw
  have hP : va_P (dC, dI) zcl [(hp, .inr (0, [.int (nI (zcp sh)), .ref q1_, .ref q2_, .ref q3_, .ref q4_])), (q2_, .inl (cJ, 16, .inr (.inl (fun _ => 0)))), (q3_, .inl (cZ, 16, .inl (fun _ => 0))), (q4_, .inl (cI, 16, .inl (fun _ => 0))), (q1_, .inl (cI, 16, .inl (fun _ => (nI 1))))] H := hP
  have hD : va_D A [(hp, .inr (0, [.int (nI (zcp sh)), .ref q1_, .ref q2_, .ref q3_, .ref q4_])), (q2_, .inl (cJ, 16, .inr (.inl (fun _ => 0)))), (q3_, .inl (cZ, 16, .inl (fun _ => 0))), (q4_, .inl (cI, 16, .inl (fun _ => 0))), (q1_, .inl (cI, 16, .inl (fun _ => (nI 1))))] := hD
  have hP := hP.sub (ws' := [(hp, .inr (0, [.int (nI (zcp sh)), .ref q1_, .ref q2_, .ref q3_, .ref q4_])), (q1_, .inl (cI, 16, .inl (fun _ => (nI 1)))), (q2_, .inl (cJ, 16, .inr (.inl (fun _ => 0)))), (q3_, .inl (cZ, 16, .inl (fun _ => 0))), (q4_, .inl (cI, 16, .inl (fun _ => 0)))]) [0, 4, 1, 2, 3] rfl
  have hD := hD.sub (ws' := [(hp, .inr (0, [.int (nI (zcp sh)), .ref q1_, .ref q2_, .ref q3_, .ref q4_])), (q1_, .inl (cI, 16, .inl (fun _ => (nI 1)))), (q2_, .inl (cJ, 16, .inr (.inl (fun _ => 0)))), (q3_, .inl (cZ, 16, .inl (fun _ => 0))), (q4_, .inl (cI, 16, .inl (fun _ => 0)))]) [0, 4, 1, 2, 3] (by decide) rfl
  exact z_vret hx hb hr hlocks hP hK hD hS zd_P_init_58 (by decide) (by decide) ⟨_, _, _, _, rfl⟩
set_option maxHeartbeats 4000000 in
set_option maxRecDepth 100000 in
/--  -/
theorem k_Race_init (l : Launch) (dC : Nat → ClassId) (dI : Nat → Nat → Nat) (cI cJ cZ : ClassId) (ra : Nat) (hp : Nat)  (sz : Nat) : zMv l zy_Q_init zw_Q_init ({ frames := 1, cells := 8, slots := 128, locals := 12 }) [.ref ra, .ref hp] (dC, dI) zcl [(cI, .int), (cJ, .long), (cZ, .boolean)] [(ra, .inr (1, [.null, .null, .null, .null, .null, .null, .null, .null, .null, .int (nI 0), .int (nI 0), .int (nI 0), .int (nI 0), .int (nI 0), .int (nI 0), .long 0]))] sz (fun (u : va_W) => ∃ (ah : Nat) (am : Nat) (at_ : Nat) (asp : Nat) (afa : Nat) (ado : Nat) (adt : Nat) (aor : Nat), u = [(ra, .inr (1, [.ref hp, .ref ah, .ref am, .ref at_, .ref asp, .ref afa, .ref ado, .ref adt, .ref aor, .int (nI 0), .int (nI 0), .int (nI 0), .int (nI 0), .int (nI 0), .int (nI 0), .long 0])), (ah, .inl (cI, 16, .inl (fun _ => 0))), (am, .inl (cI, 16, .inl (fun _ => 0))), (at_, .inl (cI, 16, .inl (fun _ => 0))), (asp, .inl (cI, 16, .inl (fun _ => 0))), (afa, .inl (cI, 16, .inl (fun _ => 0))), (ado, .inl (cI, 16, .inl (fun _ => 0))), (adt, .inl (cI, 16, .inl (fun _ => 0))), (aor, .inl (cI, 16, .inl (fun _ => 0)))]) := by
  refine z_ofv (cc := zc_Q_init) (maxL := 2) (ret := none) (by decide) rfl (Nat.le_of_ble_eq_true rfl) ?_
  intro p e s m below meth c A ls hx hb hr hml hown htz hlocks hin hA hP hK hD hS hl
  have hown : s.vm.findClass zR_Q = some m.cls := hown
  have hl : lv_has ls 2 [(0, .ref ra), (1, .ref hp)] := hl
  refine lv_aload_n hx hb zd_Q_init_0 rfl (lv_at hl 0 rfl) ?_
  refine W.objInit hx hb hown (htz _ zq_60) (htz _ zq_19) (htz _ zq_20) rfl (by rw [hml]; exact hl.1) rfl zd_Q_init_1 (Nat.le_of_ble_eq_true rfl) (Nat.le_of_ble_eq_true rfl) ?_
  refine W.eq (g2 := F0 m 4 ls []) rfl ?_
  refine lv_aload_n hx hb zd_Q_init_4 rfl (lv_at hl 0 rfl) ?_
  refine lv_aload_n hx hb zd_Q_init_5 rfl (lv_at hl 1 rfl) ?_
  refine va_putF (D := (dC, dI)) (ci := 1) (v := .ref hp) (ty := (.object "ShareRuns$Plan")) (C := zR_Q) (T := zF_Q) (N := 16) hx hb htz zi_Q zt_Q zt_Q_ok zn_Q hown hK hP hD hS 0 rfl rfl 0 (by decide) (htz _ zq_61) (fun _ h9 => h9) rfl hin rfl (by decide +kernel) rfl rfl (Nat.le_of_ble_eq_true rfl) zd_Q_init_6 (fun H locs hP hD hS => ?_)
  have hP : va_P (dC, dI) zcl [(ra, .inr (1, [.ref hp, .null, .null, .null, .null, .null, .null, .null, .null, .int (nI 0), .int (nI 0), .int (nI 0), .int (nI 0), .int (nI 0), .int (nI 0), .long 0]))] H := hP
  have hD : va_D A [(ra, .inr (1, [.ref hp, .null, .null, .null, .null, .null, .null, .null, .null, .int (nI 0), .int (nI 0), .int (nI 0), .int (nI 0), .int (nI 0), .int (nI 0), .long 0]))] := hD
  refine lv_aload_n hx hb zd_Q_init_9 rfl (lv_at hl 0 rfl) ?_
  refine lv_bipush (v := (nI 16)) hx hb zd_Q_init_10 (by decide) ?_
  refine va_newa (atype := .int) (a0 := (16, .inl (fun _ => 0))) (n := nI 16) hx hb (htz _ zq_52) (ty := .int) rfl hK hP hD hS hA (fun _ => rfl) (by decide) (by decide) (by decide) (by decide) (by decide) zd_Q_init_12 (fun q1_ cA9 H hK9 hP hD hS => ?_)
  obtain rfl : cI = cA9 := z_same hK9 0 (t1 := 3) rfl rfl (by decide)
  have hP : va_P (dC, dI) zcl [(ra, .inr (1, [.ref hp, .null, .null, .null, .null, .null, .null, .null, .null, .int (nI 0), .int (nI 0), .int (nI 0), .int (nI 0), .int (nI 0), .int (nI 0), .long 0])), (q1_, .inl (cI, 16, .inl (fun _ => 0)))] H := hP
  have hD : va_D A [(ra, .inr (1, [.ref hp, .null, .null, .null, .null, .null, .null, .null, .null, .int (nI 0), .int (nI 0), .int (nI 0), .int (nI 0), .int (nI 0), .int (nI 0), .long 0])), (q1_, .inl (cI, 16, .inl (fun _ => 0)))] := hD
  refine va_putF (D := (dC, dI)) (ci := 1) (v := .ref q1_) (ty := (.array .int)) (C := zR_Q) (T := zF_Q) (N := 16) hx hb htz zi_Q zt_Q zt_Q_ok zn_Q hown hK hP hD hS 0 rfl rfl 1 (by decide) (htz _ zq_62) (fun _ h9 => h9) rfl hin rfl (by decide +kernel) rfl rfl (Nat.le_of_ble_eq_true rfl) zd_Q_init_14 (fun H locs hP hD hS => ?_)
  have hP : va_P (dC, dI) zcl [(ra, .inr (1, [.ref hp, .ref q1_, .null, .null, .null, .null, .null, .null, .null, .int (nI 0), .int (nI 0), .int (nI 0), .int (nI 0), .int (nI 0), .int (nI 0), .long 0])), (q1_, .inl (cI, 16, .inl (fun _ => 0)))] H := hP
  have hD : va_D A [(ra, .inr (1, [.ref hp, .ref q1_, .null, .null, .null, .null, .null, .null, .null, .int (nI 0), .int (nI 0), .int (nI 0), .int (nI 0), .int (nI 0), .int (nI 0), .long 0])), (q1_, .inl (cI, 16, .inl (fun _ => 0)))] := hD
  refine lv_aload_n hx hb zd_Q_init_17 rfl (lv_at hl 0 rfl) ?_
  refine lv_bipush (v := (nI 16)) hx hb zd_Q_init_18 (by decide) ?_
  refine va_newa (atype := .int) (a0 := (16, .inl (fun _ => 0))) (n := nI 16) hx hb (htz _ zq_52) (ty := .int) rfl hK hP hD hS hA (fun _ => rfl) (by decide) (by decide) (by decide) (by decide) (by decide) zd_Q_init_20 (fun q2_ cA9 H hK9 hP hD hS => ?_)
  obtain rfl : cI = cA9 := z_same hK9 0 (t1 := 3) rfl rfl (by decide)
  have hP : va_P (dC, dI) zcl [(ra, .inr (1, [.ref hp, .ref q1_, .null, .null, .null, .null, .null, .null, .null, .int (nI 0), .int (nI 0), .int (nI 0), .int (nI 0), .int (nI 0), .int (nI 0), .long 0])), (q1_, .inl (cI, 16, .inl (fun _ => 0))), (q2_, .inl (cI, 16, .inl (fun _ => 0)))] H := hP
  have hD : va_D A [(ra, .inr (1, [.ref hp, .ref q1_, .null, .null, .null, .null, .null, .null, .null, .int (nI 0), .int (nI 0), .int (nI 0), .int (nI 0), .int (nI 0), .int (nI 0), .long 0])), (q1_, .inl (cI, 16, .inl (fun _ => 0))), (q2_, .inl (cI, 16, .inl (fun _ => 0)))] := hD
  refine va_putF (D := (dC, dI)) (ci := 1) (v := .ref q2_) (ty := (.array .int)) (C := zR_Q) (T := zF_Q) (N := 16) hx hb htz zi_Q zt_Q zt_Q_ok zn_Q hown hK hP hD hS 0 rfl rfl 2 (by decide) (htz _ zq_63) (fun _ h9 => h9) rfl hin rfl (by decide +kernel) rfl rfl (Nat.le_of_ble_eq_true rfl) zd_Q_init_22 (fun H locs hP hD hS => ?_)
  have hP : va_P (dC, dI) zcl [(ra, .inr (1, [.ref hp, .ref q1_, .ref q2_, .null, .null, .null, .null, .null, .null, .int (nI 0), .int (nI 0), .int (nI 0), .int (nI 0), .int (nI 0), .int (nI 0), .long 0])), (q1_, .inl (cI, 16, .inl (fun _ => 0))), (q2_, .inl (cI, 16, .inl (fun _ => 0)))] H := hP
  have hD : va_D A [(ra, .inr (1, [.ref hp, .ref q1_, .ref q2_, .null, .null, .null, .null, .null, .null, .int (nI 0), .int (nI 0), .int (nI 0), .int (nI 0), .int (nI 0), .int (nI 0), .long 0])), (q1_, .inl (cI, 16, .inl (fun _ => 0))), (q2_, .inl (cI, 16, .inl (fun _ => 0)))] := hD
  refine lv_aload_n hx hb zd_Q_init_25 rfl (lv_at hl 0 rfl) ?_
  refine lv_bipush (v := (nI 16)) hx hb zd_Q_init_26 (by decide) ?_
  refine va_newa (atype := .int) (a0 := (16, .inl (fun _ => 0))) (n := nI 16) hx hb (htz _ zq_52) (ty := .int) rfl hK hP hD hS hA (fun _ => rfl) (by decide) (by decide) (by decide) (by decide) (by decide) zd_Q_init_28 (fun q3_ cA9 H hK9 hP hD hS => ?_)
  obtain rfl : cI = cA9 := z_same hK9 0 (t1 := 3) rfl rfl (by decide)
  have hP : va_P (dC, dI) zcl [(ra, .inr (1, [.ref hp, .ref q1_, .ref q2_, .null, .null, .null, .null, .null, .null, .int (nI 0), .int (nI 0), .int (nI 0), .int (nI 0), .int (nI 0), .int (nI 0), .long 0])), (q1_, .inl (cI, 16, .inl (fun _ => 0))), (q2_, .inl (cI, 16, .inl (fun _ => 0))), (q3_, .inl (cI, 16, .inl (fun _ => 0)))] H := hP
  have hD : va_D A [(ra, .inr (1, [.ref hp, .ref q1_, .ref q2_, .null, .null, .null, .null, .null, .null, .int (nI 0), .int (nI 0), .int (nI 0), .int (nI 0), .int (nI 0), .int (nI 0), .long 0])), (q1_, .inl (cI, 16, .inl (fun _ => 0))), (q2_, .inl (cI, 16, .inl (fun _ => 0))), (q3_, .inl (cI, 16, .inl (fun _ => 0)))] := hD
  refine va_putF (D := (dC, dI)) (ci := 1) (v := .ref q3_) (ty := (.array .int)) (C := zR_Q) (T := zF_Q) (N := 16) hx hb htz zi_Q zt_Q zt_Q_ok zn_Q hown hK hP hD hS 0 rfl rfl 3 (by decide) (htz _ zq_64) (fun _ h9 => h9) rfl hin rfl (by decide +kernel) rfl rfl (Nat.le_of_ble_eq_true rfl) zd_Q_init_30 (fun H locs hP hD hS => ?_)
  have hP : va_P (dC, dI) zcl [(ra, .inr (1, [.ref hp, .ref q1_, .ref q2_, .ref q3_, .null, .null, .null, .null, .null, .int (nI 0), .int (nI 0), .int (nI 0), .int (nI 0), .int (nI 0), .int (nI 0), .long 0])), (q1_, .inl (cI, 16, .inl (fun _ => 0))), (q2_, .inl (cI, 16, .inl (fun _ => 0))), (q3_, .inl (cI, 16, .inl (fun _ => 0)))] H := hP
  have hD : va_D A [(ra, .inr (1, [.ref hp, .ref q1_, .ref q2_, .ref q3_, .null, .null, .null, .null, .null, .int (nI 0), .int (nI 0), .int (nI 0), .int (nI 0), .int (nI 0), .int (nI 0), .long 0])), (q1_, .inl (cI, 16, .inl (fun _ => 0))), (q2_, .inl (cI, 16, .inl (fun _ => 0))), (q3_, .inl (cI, 16, .inl (fun _ => 0)))] := hD
  refine lv_aload_n hx hb zd_Q_init_33 rfl (lv_at hl 0 rfl) ?_
  refine lv_bipush (v := (nI 16)) hx hb zd_Q_init_34 (by decide) ?_
  refine va_newa (atype := .int) (a0 := (16, .inl (fun _ => 0))) (n := nI 16) hx hb (htz _ zq_52) (ty := .int) rfl hK hP hD hS hA (fun _ => rfl) (by decide) (by decide) (by decide) (by decide) (by decide) zd_Q_init_36 (fun q4_ cA9 H hK9 hP hD hS => ?_)
  obtain rfl : cI = cA9 := z_same hK9 0 (t1 := 3) rfl rfl (by decide)
  have hP : va_P (dC, dI) zcl [(ra, .inr (1, [.ref hp, .ref q1_, .ref q2_, .ref q3_, .null, .null, .null, .null, .null, .int (nI 0), .int (nI 0), .int (nI 0), .int (nI 0), .int (nI 0), .int (nI 0), .long 0])), (q1_, .inl (cI, 16, .inl (fun _ => 0))), (q2_, .inl (cI, 16, .inl (fun _ => 0))), (q3_, .inl (cI, 16, .inl (fun _ => 0))), (q4_, .inl (cI, 16, .inl (fun _ => 0)))] H := hP
  have hD : va_D A [(ra, .inr (1, [.ref hp, .ref q1_, .ref q2_, .ref q3_, .null, .null, .null, .null, .null, .int (nI 0), .int (nI 0), .int (nI 0), .int (nI 0), .int (nI 0), .int (nI 0), .long 0])), (q1_, .inl (cI, 16, .inl (fun _ => 0))), (q2_, .inl (cI, 16, .inl (fun _ => 0))), (q3_, .inl (cI, 16, .inl (fun _ => 0))), (q4_, .inl (cI, 16, .inl (fun _ => 0)))] := hD
  refine va_putF (D := (dC, dI)) (ci := 1) (v := .ref q4_) (ty := (.array .int)) (C := zR_Q) (T := zF_Q) (N := 16) hx hb htz zi_Q zt_Q zt_Q_ok zn_Q hown hK hP hD hS 0 rfl rfl 4 (by decide) (htz _ zq_65) (fun _ h9 => h9) rfl hin rfl (by decide +kernel) rfl rfl (Nat.le_of_ble_eq_true rfl) zd_Q_init_38 (fun H locs hP hD hS => ?_)
  have hP : va_P (dC, dI) zcl [(ra, .inr (1, [.ref hp, .ref q1_, .ref q2_, .ref q3_, .ref q4_, .null, .null, .null, .null, .int (nI 0), .int (nI 0), .int (nI 0), .int (nI 0), .int (nI 0), .int (nI 0), .long 0])), (q1_, .inl (cI, 16, .inl (fun _ => 0))), (q2_, .inl (cI, 16, .inl (fun _ => 0))), (q3_, .inl (cI, 16, .inl (fun _ => 0))), (q4_, .inl (cI, 16, .inl (fun _ => 0)))] H := hP
  have hD : va_D A [(ra, .inr (1, [.ref hp, .ref q1_, .ref q2_, .ref q3_, .ref q4_, .null, .null, .null, .null, .int (nI 0), .int (nI 0), .int (nI 0), .int (nI 0), .int (nI 0), .int (nI 0), .long 0])), (q1_, .inl (cI, 16, .inl (fun _ => 0))), (q2_, .inl (cI, 16, .inl (fun _ => 0))), (q3_, .inl (cI, 16, .inl (fun _ => 0))), (q4_, .inl (cI, 16, .inl (fun _ => 0)))] := hD
  refine lv_aload_n hx hb zd_Q_init_41 rfl (lv_at hl 0 rfl) ?_
  refine lv_bipush (v := (nI 16)) hx hb zd_Q_init_42 (by decide) ?_
  refine va_newa (atype := .int) (a0 := (16, .inl (fun _ => 0))) (n := nI 16) hx hb (htz _ zq_52) (ty := .int) rfl hK hP hD hS hA (fun _ => rfl) (by decide) (by decide) (by decide) (by decide) (by decide) zd_Q_init_44 (fun q5_ cA9 H hK9 hP hD hS => ?_)
  obtain rfl : cI = cA9 := z_same hK9 0 (t1 := 3) rfl rfl (by decide)
  have hP : va_P (dC, dI) zcl [(ra, .inr (1, [.ref hp, .ref q1_, .ref q2_, .ref q3_, .ref q4_, .null, .null, .null, .null, .int (nI 0), .int (nI 0), .int (nI 0), .int (nI 0), .int (nI 0), .int (nI 0), .long 0])), (q1_, .inl (cI, 16, .inl (fun _ => 0))), (q2_, .inl (cI, 16, .inl (fun _ => 0))), (q3_, .inl (cI, 16, .inl (fun _ => 0))), (q4_, .inl (cI, 16, .inl (fun _ => 0))), (q5_, .inl (cI, 16, .inl (fun _ => 0)))] H := hP
  have hD : va_D A [(ra, .inr (1, [.ref hp, .ref q1_, .ref q2_, .ref q3_, .ref q4_, .null, .null, .null, .null, .int (nI 0), .int (nI 0), .int (nI 0), .int (nI 0), .int (nI 0), .int (nI 0), .long 0])), (q1_, .inl (cI, 16, .inl (fun _ => 0))), (q2_, .inl (cI, 16, .inl (fun _ => 0))), (q3_, .inl (cI, 16, .inl (fun _ => 0))), (q4_, .inl (cI, 16, .inl (fun _ => 0))), (q5_, .inl (cI, 16, .inl (fun _ => 0)))] := hD
  refine va_putF (D := (dC, dI)) (ci := 1) (v := .ref q5_) (ty := (.array .int)) (C := zR_Q) (T := zF_Q) (N := 16) hx hb htz zi_Q zt_Q zt_Q_ok zn_Q hown hK hP hD hS 0 rfl rfl 5 (by decide) (htz _ zq_66) (fun _ h9 => h9) rfl hin rfl (by decide +kernel) rfl rfl (Nat.le_of_ble_eq_true rfl) zd_Q_init_46 (fun H locs hP hD hS => ?_)
  have hP : va_P (dC, dI) zcl [(ra, .inr (1, [.ref hp, .ref q1_, .ref q2_, .ref q3_, .ref q4_, .ref q5_, .null, .null, .null, .int (nI 0), .int (nI 0), .int (nI 0), .int (nI 0), .int (nI 0), .int (nI 0), .long 0])), (q1_, .inl (cI, 16, .inl (fun _ => 0))), (q2_, .inl (cI, 16, .inl (fun _ => 0))), (q3_, .inl (cI, 16, .inl (fun _ => 0))), (q4_, .inl (cI, 16, .inl (fun _ => 0))), (q5_, .inl (cI, 16, .inl (fun _ => 0)))] H := hP
  have hD : va_D A [(ra, .inr (1, [.ref hp, .ref q1_, .ref q2_, .ref q3_, .ref q4_, .ref q5_, .null, .null, .null, .int (nI 0), .int (nI 0), .int (nI 0), .int (nI 0), .int (nI 0), .int (nI 0), .long 0])), (q1_, .inl (cI, 16, .inl (fun _ => 0))), (q2_, .inl (cI, 16, .inl (fun _ => 0))), (q3_, .inl (cI, 16, .inl (fun _ => 0))), (q4_, .inl (cI, 16, .inl (fun _ => 0))), (q5_, .inl (cI, 16, .inl (fun _ => 0)))] := hD
  refine lv_aload_n hx hb zd_Q_init_49 rfl (lv_at hl 0 rfl) ?_
  refine lv_bipush (v := (nI 16)) hx hb zd_Q_init_50 (by decide) ?_
  refine va_newa (atype := .int) (a0 := (16, .inl (fun _ => 0))) (n := nI 16) hx hb (htz _ zq_52) (ty := .int) rfl hK hP hD hS hA (fun _ => rfl) (by decide) (by decide) (by decide) (by decide) (by decide) zd_Q_init_52 (fun q6_ cA9 H hK9 hP hD hS => ?_)
  obtain rfl : cI = cA9 := z_same hK9 0 (t1 := 3) rfl rfl (by decide)
  have hP : va_P (dC, dI) zcl [(ra, .inr (1, [.ref hp, .ref q1_, .ref q2_, .ref q3_, .ref q4_, .ref q5_, .null, .null, .null, .int (nI 0), .int (nI 0), .int (nI 0), .int (nI 0), .int (nI 0), .int (nI 0), .long 0])), (q1_, .inl (cI, 16, .inl (fun _ => 0))), (q2_, .inl (cI, 16, .inl (fun _ => 0))), (q3_, .inl (cI, 16, .inl (fun _ => 0))), (q4_, .inl (cI, 16, .inl (fun _ => 0))), (q5_, .inl (cI, 16, .inl (fun _ => 0))), (q6_, .inl (cI, 16, .inl (fun _ => 0)))] H := hP
  have hD : va_D A [(ra, .inr (1, [.ref hp, .ref q1_, .ref q2_, .ref q3_, .ref q4_, .ref q5_, .null, .null, .null, .int (nI 0), .int (nI 0), .int (nI 0), .int (nI 0), .int (nI 0), .int (nI 0), .long 0])), (q1_, .inl (cI, 16, .inl (fun _ => 0))), (q2_, .inl (cI, 16, .inl (fun _ => 0))), (q3_, .inl (cI, 16, .inl (fun _ => 0))), (q4_, .inl (cI, 16, .inl (fun _ => 0))), (q5_, .inl (cI, 16, .inl (fun _ => 0))), (q6_, .inl (cI, 16, .inl (fun _ => 0)))] := hD
  refine va_putF (D := (dC, dI)) (ci := 1) (v := .ref q6_) (ty := (.array .int)) (C := zR_Q) (T := zF_Q) (N := 16) hx hb htz zi_Q zt_Q zt_Q_ok zn_Q hown hK hP hD hS 0 rfl rfl 6 (by decide) (htz _ zq_67) (fun _ h9 => h9) rfl hin rfl (by decide +kernel) rfl rfl (Nat.le_of_ble_eq_true rfl) zd_Q_init_54 (fun H locs hP hD hS => ?_)
  have hP : va_P (dC, dI) zcl [(ra, .inr (1, [.ref hp, .ref q1_, .ref q2_, .ref q3_, .ref q4_, .ref q5_, .ref q6_, .null, .null, .int (nI 0), .int (nI 0), .int (nI 0), .int (nI 0), .int (nI 0), .int (nI 0), .long 0])), (q1_, .inl (cI, 16, .inl (fun _ => 0))), (q2_, .inl (cI, 16, .inl (fun _ => 0))), (q3_, .inl (cI, 16, .inl (fun _ => 0))), (q4_, .inl (cI, 16, .inl (fun _ => 0))), (q5_, .inl (cI, 16, .inl (fun _ => 0))), (q6_, .inl (cI, 16, .inl (fun _ => 0)))] H := hP
  have hD : va_D A [(ra, .inr (1, [.ref hp, .ref q1_, .ref q2_, .ref q3_, .ref q4_, .ref q5_, .ref q6_, .null, .null, .int (nI 0), .int (nI 0), .int (nI 0), .int (nI 0), .int (nI 0), .int (nI 0), .long 0])), (q1_, .inl (cI, 16, .inl (fun _ => 0))), (q2_, .inl (cI, 16, .inl (fun _ => 0))), (q3_, .inl (cI, 16, .inl (fun _ => 0))), (q4_, .inl (cI, 16, .inl (fun _ => 0))), (q5_, .inl (cI, 16, .inl (fun _ => 0))), (q6_, .inl (cI, 16, .inl (fun _ => 0)))] := hD
  refine lv_aload_n hx hb zd_Q_init_57 rfl (lv_at hl 0 rfl) ?_
  refine lv_bipush (v := (nI 16)) hx hb zd_Q_init_58 (by decide) ?_
  refine va_newa (atype := .int) (a0 := (16, .inl (fun _ => 0))) (n := nI 16) hx hb (htz _ zq_52) (ty := .int) rfl hK hP hD hS hA (fun _ => rfl) (by decide) (by decide) (by decide) (by decide) (by decide) zd_Q_init_60 (fun q7_ cA9 H hK9 hP hD hS => ?_)
  obtain rfl : cI = cA9 := z_same hK9 0 (t1 := 3) rfl rfl (by decide)
  have hP : va_P (dC, dI) zcl [(ra, .inr (1, [.ref hp, .ref q1_, .ref q2_, .ref q3_, .ref q4_, .ref q5_, .ref q6_, .null, .null, .int (nI 0), .int (nI 0), .int (nI 0), .int (nI 0), .int (nI 0), .int (nI 0), .long 0])), (q1_, .inl (cI, 16, .inl (fun _ => 0))), (q2_, .inl (cI, 16, .inl (fun _ => 0))), (q3_, .inl (cI, 16, .inl (fun _ => 0))), (q4_, .inl (cI, 16, .inl (fun _ => 0))), (q5_, .inl (cI, 16, .inl (fun _ => 0))), (q6_, .inl (cI, 16, .inl (fun _ => 0))), (q7_, .inl (cI, 16, .inl (fun _ => 0)))] H := hP
  have hD : va_D A [(ra, .inr (1, [.ref hp, .ref q1_, .ref q2_, .ref q3_, .ref q4_, .ref q5_, .ref q6_, .null, .null, .int (nI 0), .int (nI 0), .int (nI 0), .int (nI 0), .int (nI 0), .int (nI 0), .long 0])), (q1_, .inl (cI, 16, .inl (fun _ => 0))), (q2_, .inl (cI, 16, .inl (fun _ => 0))), (q3_, .inl (cI, 16, .inl (fun _ => 0))), (q4_, .inl (cI, 16, .inl (fun _ => 0))), (q5_, .inl (cI, 16, .inl (fun _ => 0))), (q6_, .inl (cI, 16, .inl (fun _ => 0))), (q7_, .inl (cI, 16, .inl (fun _ => 0)))] := hD
  refine va_putF (D := (dC, dI)) (ci := 1) (v := .ref q7_) (ty := (.array .int)) (C := zR_Q) (T := zF_Q) (N := 16) hx hb htz zi_Q zt_Q zt_Q_ok zn_Q hown hK hP hD hS 0 rfl rfl 7 (by decide) (htz _ zq_68) (fun _ h9 => h9) rfl hin rfl (by decide +kernel) rfl rfl (Nat.le_of_ble_eq_true rfl) zd_Q_init_62 (fun H locs hP hD hS => ?_)
  have hP : va_P (dC, dI) zcl [(ra, .inr (1, [.ref hp, .ref q1_, .ref q2_, .ref q3_, .ref q4_, .ref q5_, .ref q6_, .ref q7_, .null, .int (nI 0), .int (nI 0), .int (nI 0), .int (nI 0), .int (nI 0), .int (nI 0), .long 0])), (q1_, .inl (cI, 16, .inl (fun _ => 0))), (q2_, .inl (cI, 16, .inl (fun _ => 0))), (q3_, .inl (cI, 16, .inl (fun _ => 0))), (q4_, .inl (cI, 16, .inl (fun _ => 0))), (q5_, .inl (cI, 16, .inl (fun _ => 0))), (q6_, .inl (cI, 16, .inl (fun _ => 0))), (q7_, .inl (cI, 16, .inl (fun _ => 0)))] H := hP
  have hD : va_D A [(ra, .inr (1, [.ref hp, .ref q1_, .ref q2_, .ref q3_, .ref q4_, .ref q5_, .ref q6_, .ref q7_, .null, .int (nI 0), .int (nI 0), .int (nI 0), .int (nI 0), .int (nI 0), .int (nI 0), .long 0])), (q1_, .inl (cI, 16, .inl (fun _ => 0))), (q2_, .inl (cI, 16, .inl (fun _ => 0))), (q3_, .inl (cI, 16, .inl (fun _ => 0))), (q4_, .inl (cI, 16, .inl (fun _ => 0))), (q5_, .inl (cI, 16, .inl (fun _ => 0))), (q6_, .inl (cI, 16, .inl (fun _ => 0))), (q7_, .inl (cI, 16, .inl (fun _ => 0)))] := hD
  refine lv_aload_n hx hb zd_Q_init_65 rfl (lv_at hl 0 rfl) ?_
  refine lv_bipush (v := (nI 16)) hx hb zd_Q_init_66 (by decide) ?_
  refine va_newa (atype := .int) (a0 := (16, .inl (fun _ => 0))) (n := nI 16) hx hb (htz _ zq_52) (ty := .int) rfl hK hP hD hS hA (fun _ => rfl) (by decide) (by decide) (by decide) (by decide) (by decide) zd_Q_init_68 (fun q8_ cA9 H hK9 hP hD hS => ?_)
  obtain rfl : cI = cA9 := z_same hK9 0 (t1 := 3) rfl rfl (by decide)
  have hP : va_P (dC, dI) zcl [(ra, .inr (1, [.ref hp, .ref q1_, .ref q2_, .ref q3_, .ref q4_, .ref q5_, .ref q6_, .ref q7_, .null, .int (nI 0), .int (nI 0), .int (nI 0), .int (nI 0), .int (nI 0), .int (nI 0), .long 0])), (q1_, .inl (cI, 16, .inl (fun _ => 0))), (q2_, .inl (cI, 16, .inl (fun _ => 0))), (q3_, .inl (cI, 16, .inl (fun _ => 0))), (q4_, .inl (cI, 16, .inl (fun _ => 0))), (q5_, .inl (cI, 16, .inl (fun _ => 0))), (q6_, .inl (cI, 16, .inl (fun _ => 0))), (q7_, .inl (cI, 16, .inl (fun _ => 0))), (q8_, .inl (cI, 16, .inl (fun _ => 0)))] H := hP
  have hD : va_D A [(ra, .inr (1, [.ref hp, .ref q1_, .ref q2_, .ref q3_, .ref q4_, .ref q5_, .ref q6_, .ref q7_, .null, .int (nI 0), .int (nI 0), .int (nI 0), .int (nI 0), .int (nI 0), .int (nI 0), .long 0])), (q1_, .inl (cI, 16, .inl (fun _ => 0))), (q2_, .inl (cI, 16, .inl (fun _ => 0))), (q3_, .inl (cI, 16, .inl (fun _ => 0))), (q4_, .inl (cI, 16, .inl (fun _ => 0))), (q5_, .inl (cI, 16, .inl (fun _ => 0))), (q6_, .inl (cI, 16, .inl (fun _ => 0))), (q7_, .inl (cI, 16, .inl (fun _ => 0))), (q8_, .inl (cI, 16, .inl (fun _ => 0)))] := hD
  refine va_putF (D := (dC, dI)) (ci := 1) (v := .ref q8_) (ty := (.array .int)) (C := zR_Q) (T := zF_Q) (N := 16) hx hb htz zi_Q zt_Q zt_Q_ok zn_Q hown hK hP hD hS 0 rfl rfl 8 (by decide) (htz _ zq_69) (fun _ h9 => h9) rfl hin rfl (by decide +kernel) rfl rfl (Nat.le_of_ble_eq_true rfl) zd_Q_init_70 (fun H locs hP hD hS => ?_)
  have hP : va_P (dC, dI) zcl [(ra, .inr (1, [.ref hp, .ref q1_, .ref q2_, .ref q3_, .ref q4_, .ref q5_, .ref q6_, .ref q7_, .ref q8_, .int (nI 0), .int (nI 0), .int (nI 0), .int (nI 0), .int (nI 0), .int (nI 0), .long 0])), (q1_, .inl (cI, 16, .inl (fun _ => 0))), (q2_, .inl (cI, 16, .inl (fun _ => 0))), (q3_, .inl (cI, 16, .inl (fun _ => 0))), (q4_, .inl (cI, 16, .inl (fun _ => 0))), (q5_, .inl (cI, 16, .inl (fun _ => 0))), (q6_, .inl (cI, 16, .inl (fun _ => 0))), (q7_, .inl (cI, 16, .inl (fun _ => 0))), (q8_, .inl (cI, 16, .inl (fun _ => 0)))] H := hP
  have hD : va_D A [(ra, .inr (1, [.ref hp, .ref q1_, .ref q2_, .ref q3_, .ref q4_, .ref q5_, .ref q6_, .ref q7_, .ref q8_, .int (nI 0), .int (nI 0), .int (nI 0), .int (nI 0), .int (nI 0), .int (nI 0), .long 0])), (q1_, .inl (cI, 16, .inl (fun _ => 0))), (q2_, .inl (cI, 16, .inl (fun _ => 0))), (q3_, .inl (cI, 16, .inl (fun _ => 0))), (q4_, .inl (cI, 16, .inl (fun _ => 0))), (q5_, .inl (cI, 16, .inl (fun _ => 0))), (q6_, .inl (cI, 16, .inl (fun _ => 0))), (q7_, .inl (cI, 16, .inl (fun _ => 0))), (q8_, .inl (cI, 16, .inl (fun _ => 0)))] := hD
  exact z_vret hx hb hr hlocks hP hK hD hS zd_Q_init_73 (by decide) (by decide) ⟨_, _, _, _, _, _, _, _, rfl⟩
set_option maxHeartbeats 4000000 in
set_option maxRecDepth 100000 in
/--  -/
theorem k_Race_begin (l : Launch) (dC : Nat → ClassId) (dI : Nat → Nat → Nat) (cI cJ cZ : ClassId) (ra : Nat) (hp : Nat) (ah : Nat) (am : Nat) (at_ : Nat) (asp : Nat) (afa : Nat) (ado : Nat) (adt : Nat) (aor : Nat) (cr : Nat) (ho : Nat) (nx : Nat) (ba : Nat) (pl : Nat) (tk : Nat) (rr : Int64) (aw : Nat) (av : Nat) (az : Nat) (af : Nat) (n : Nat) (hd : Nat → Int32) (mv : Nat → Int32) (tt : Nat → Int32) (sp : Nat → Int32) (fa : Nat → Int32) (dr : Nat → Int32) (dt : Nat → Int32) (W0 : Nat) (sd : Int64) (hw1 : 1 ≤ W0) (hw2 : W0 ≤ 16) (sz : Nat) : zMv l zy_Q_begin zw_Q_begin ({ frames := 1, cells := 0, slots := 0, locals := 23 }) [.ref ra, .int (nI W0), .long sd] (dC, dI) zcl [(cI, .int), (cJ, .long), (cZ, .boolean)] [(ra, .inr (1, [.ref hp, .ref ah, .ref am, .ref at_, .ref asp, .ref afa, .ref ado, .ref adt, .ref aor, .int (nI cr), .int (nI ho), .int (nI nx), .int (nI ba), .int (nI pl), .int (nI tk), .long rr])), (hp, .inr (0, [.int (nI n), .ref aw, .ref av, .ref az, .ref af])), (ah, .inl (cI, 16, .inl hd)), (am, .inl (cI, 16, .inl mv)), (at_, .inl (cI, 16, .inl tt)), (asp, .inl (cI, 16, .inl sp)), (afa, .inl (cI, 16, .inl fa)), (ado, .inl (cI, 16, .inl dr)), (adt, .inl (cI, 16, .inl dt))] sz (fun (u : va_W) => u = [(ra, .inr (1, [.ref hp, .ref ah, .ref am, .ref at_, .ref asp, .ref afa, .ref ado, .ref adt, .ref aor, .int (nI W0), .int (nI 0), .int (nI 0), .int (nI n), .int (nI 0), .int (nI 0), .long sd])), (hp, .inr (0, [.int (nI n), .ref aw, .ref av, .ref az, .ref af])), (ah, .inl (cI, 16, .inl (fun _ => (-1)))), (am, .inl (cI, 16, .inl (fun _ => 0))), (at_, .inl (cI, 16, .inl (fun _ => 0))), (asp, .inl (cI, 16, .inl (fun _ => 0))), (afa, .inl (cI, 16, .inl (fun _ => 0))), (ado, .inl (cI, 16, .inl (fun _ => (-1)))), (adt, .inl (cI, 16, .inl (fun _ => 0)))]) := by
  refine z_ofv (cc := zc_Q_begin) (maxL := 4) (ret := none) (by decide) rfl (Nat.le_of_ble_eq_true rfl) ?_
  intro p e s m below meth c A ls hx hb hr hml hown htz hlocks hin hA hP hK hD hS hl
  have hown : s.vm.findClass zR_Q = some m.cls := hown
  have hl : lv_has ls 4 [(0, .ref ra), (1, .int (nI W0)), (2, .long sd)] := hl
  refine lv_aload_n hx hb zd_Q_begin_0 rfl (lv_at hl 0 rfl) ?_
  refine va_get (D := (dC, dI)) (ci := 1) (v := .ref ah) (C := zR_Q) (T := zF_Q) (N := 16) hx hb htz zi_Q hown hK hP 0 rfl rfl 1 (by decide) (htz _ zq_62) (fun _ h9 => h9) rfl zd_Q_begin_1 ?_
  refine lv_iconst (v := (-1)) hx hb zd_Q_begin_4 (by decide) ?_
  refine z_Sv (As := [.ref ah, .int (-1)]) (rest := []) (wc := [(ah, .inl (cI, 16, .inl hd))]) (wr := [(ra, .inr (1, [.ref hp, .ref ah, .ref am, .ref at_, .ref asp, .ref afa, .ref ado, .ref adt, .ref aor, .int (nI cr), .int (nI ho), .int (nI nx), .int (nI ba), .int (nI pl), .int (nI tk), .long rr])), (hp, .inr (0, [.int (nI n), .ref aw, .ref av, .ref az, .ref af])), (am, .inl (cI, 16, .inl mv)), (at_, .inl (cI, 16, .inl tt)), (asp, .inl (cI, 16, .inl sp)), (afa, .inl (cI, 16, .inl fa)), (ado, .inl (cI, 16, .inl dr)), (adt, .inl (cI, 16, .inl dt))]) ⟨hx, hb, hml, hown, htz⟩ hK hP hD hS hA (k_Arrays_fill l dC dI cI cJ cZ ah hd (-1) s.heap.size) (zcwS 2 htz zq_35 zq_266 zq_34 zq_4 (by decide +kernel) ⟨Nat.le_of_ble_eq_true rfl, Nat.le_of_ble_eq_true rfl⟩) [2] [0, 1, 3, 4, 5, 6, 7, 8] rfl rfl rfl (by decide) rfl hl.1 rfl (Nat.le_of_ble_eq_true rfl) zd_Q_begin_5 ⟨Nat.le_of_ble_eq_true rfl, Nat.le_of_ble_eq_true rfl⟩ (fun u H locs hw hP hD hS => ?_)
  obtain rfl := hw
  have hP : va_P (dC, dI) zcl [(ra, .inr (1, [.ref hp, .ref ah, .ref am, .ref at_, .ref asp, .ref afa, .ref ado, .ref adt, .ref aor, .int (nI cr), .int (nI ho), .int (nI nx), .int (nI ba), .int (nI pl), .int (nI tk), .long rr])), (hp, .inr (0, [.int (nI n), .ref aw, .ref av, .ref az, .ref af])), (am, .inl (cI, 16, .inl mv)), (at_, .inl (cI, 16, .inl tt)), (asp, .inl (cI, 16, .inl sp)), (afa, .inl (cI, 16, .inl fa)), (ado, .inl (cI, 16, .inl dr)), (adt, .inl (cI, 16, .inl dt)), (ah, .inl (cI, 16, .inl (fun _ => (-1))))] H := hP
  have hD : va_D A [(ra, .inr (1, [.ref hp, .ref ah, .ref am, .ref at_, .ref asp, .ref afa, .ref ado, .ref adt, .ref aor, .int (nI cr), .int (nI ho), .int (nI nx), .int (nI ba), .int (nI pl), .int (nI tk), .long rr])), (hp, .inr (0, [.int (nI n), .ref aw, .ref av, .ref az, .ref af])), (am, .inl (cI, 16, .inl mv)), (at_, .inl (cI, 16, .inl tt)), (asp, .inl (cI, 16, .inl sp)), (afa, .inl (cI, 16, .inl fa)), (ado, .inl (cI, 16, .inl dr)), (adt, .inl (cI, 16, .inl dt)), (ah, .inl (cI, 16, .inl (fun _ => (-1))))] := hD
  refine lv_aload_n hx hb zd_Q_begin_8 rfl (lv_at hl 0 rfl) ?_
  refine va_get (D := (dC, dI)) (ci := 1) (v := .ref am) (C := zR_Q) (T := zF_Q) (N := 16) hx hb htz zi_Q hown hK hP 0 rfl rfl 2 (by decide) (htz _ zq_63) (fun _ h9 => h9) rfl zd_Q_begin_9 ?_
  refine lv_iconst (v := (nI 0)) hx hb zd_Q_begin_12 (by decide) ?_
  refine z_Sv (As := [.ref am, .int (nI 0)]) (rest := []) (wc := [(am, .inl (cI, 16, .inl mv))]) (wr := [(ra, .inr (1, [.ref hp, .ref ah, .ref am, .ref at_, .ref asp, .ref afa, .ref ado, .ref adt, .ref aor, .int (nI cr), .int (nI ho), .int (nI nx), .int (nI ba), .int (nI pl), .int (nI tk), .long rr])), (hp, .inr (0, [.int (nI n), .ref aw, .ref av, .ref az, .ref af])), (at_, .inl (cI, 16, .inl tt)), (asp, .inl (cI, 16, .inl sp)), (afa, .inl (cI, 16, .inl fa)), (ado, .inl (cI, 16, .inl dr)), (adt, .inl (cI, 16, .inl dt)), (ah, .inl (cI, 16, .inl (fun _ => (-1))))]) ⟨hx, hb, hml, hown, htz⟩ hK hP hD hS hA (k_Arrays_fill l dC dI cI cJ cZ am mv (nI 0) H.size) (zcwS 2 htz zq_35 zq_266 zq_34 zq_4 (by decide +kernel) ⟨Nat.le_of_ble_eq_true rfl, Nat.le_of_ble_eq_true rfl⟩) [2] [0, 1, 3, 4, 5, 6, 7, 8] rfl rfl rfl (by decide) rfl hl.1 rfl (Nat.le_of_ble_eq_true rfl) zd_Q_begin_13 ⟨Nat.le_of_ble_eq_true rfl, Nat.le_of_ble_eq_true rfl⟩ (fun u H locs hw hP hD hS => ?_)
  obtain rfl := hw
  have hP : va_P (dC, dI) zcl [(ra, .inr (1, [.ref hp, .ref ah, .ref am, .ref at_, .ref asp, .ref afa, .ref ado, .ref adt, .ref aor, .int (nI cr), .int (nI ho), .int (nI nx), .int (nI ba), .int (nI pl), .int (nI tk), .long rr])), (hp, .inr (0, [.int (nI n), .ref aw, .ref av, .ref az, .ref af])), (at_, .inl (cI, 16, .inl tt)), (asp, .inl (cI, 16, .inl sp)), (afa, .inl (cI, 16, .inl fa)), (ado, .inl (cI, 16, .inl dr)), (adt, .inl (cI, 16, .inl dt)), (ah, .inl (cI, 16, .inl (fun _ => (-1)))), (am, .inl (cI, 16, .inl (fun _ => (nI 0))))] H := hP
  have hD : va_D A [(ra, .inr (1, [.ref hp, .ref ah, .ref am, .ref at_, .ref asp, .ref afa, .ref ado, .ref adt, .ref aor, .int (nI cr), .int (nI ho), .int (nI nx), .int (nI ba), .int (nI pl), .int (nI tk), .long rr])), (hp, .inr (0, [.int (nI n), .ref aw, .ref av, .ref az, .ref af])), (at_, .inl (cI, 16, .inl tt)), (asp, .inl (cI, 16, .inl sp)), (afa, .inl (cI, 16, .inl fa)), (ado, .inl (cI, 16, .inl dr)), (adt, .inl (cI, 16, .inl dt)), (ah, .inl (cI, 16, .inl (fun _ => (-1)))), (am, .inl (cI, 16, .inl (fun _ => (nI 0))))] := hD
  refine lv_aload_n hx hb zd_Q_begin_16 rfl (lv_at hl 0 rfl) ?_
  refine va_get (D := (dC, dI)) (ci := 1) (v := .ref at_) (C := zR_Q) (T := zF_Q) (N := 16) hx hb htz zi_Q hown hK hP 0 rfl rfl 3 (by decide) (htz _ zq_64) (fun _ h9 => h9) rfl zd_Q_begin_17 ?_
  refine lv_iconst (v := (nI 0)) hx hb zd_Q_begin_20 (by decide) ?_
  refine z_Sv (As := [.ref at_, .int (nI 0)]) (rest := []) (wc := [(at_, .inl (cI, 16, .inl tt))]) (wr := [(ra, .inr (1, [.ref hp, .ref ah, .ref am, .ref at_, .ref asp, .ref afa, .ref ado, .ref adt, .ref aor, .int (nI cr), .int (nI ho), .int (nI nx), .int (nI ba), .int (nI pl), .int (nI tk), .long rr])), (hp, .inr (0, [.int (nI n), .ref aw, .ref av, .ref az, .ref af])), (asp, .inl (cI, 16, .inl sp)), (afa, .inl (cI, 16, .inl fa)), (ado, .inl (cI, 16, .inl dr)), (adt, .inl (cI, 16, .inl dt)), (ah, .inl (cI, 16, .inl (fun _ => (-1)))), (am, .inl (cI, 16, .inl (fun _ => (nI 0))))]) ⟨hx, hb, hml, hown, htz⟩ hK hP hD hS hA (k_Arrays_fill l dC dI cI cJ cZ at_ tt (nI 0) H.size) (zcwS 2 htz zq_35 zq_266 zq_34 zq_4 (by decide +kernel) ⟨Nat.le_of_ble_eq_true rfl, Nat.le_of_ble_eq_true rfl⟩) [2] [0, 1, 3, 4, 5, 6, 7, 8] rfl rfl rfl (by decide) rfl hl.1 rfl (Nat.le_of_ble_eq_true rfl) zd_Q_begin_21 ⟨Nat.le_of_ble_eq_true rfl, Nat.le_of_ble_eq_true rfl⟩ (fun u H locs hw hP hD hS => ?_)
  obtain rfl := hw
  have hP : va_P (dC, dI) zcl [(ra, .inr (1, [.ref hp, .ref ah, .ref am, .ref at_, .ref asp, .ref afa, .ref ado, .ref adt, .ref aor, .int (nI cr), .int (nI ho), .int (nI nx), .int (nI ba), .int (nI pl), .int (nI tk), .long rr])), (hp, .inr (0, [.int (nI n), .ref aw, .ref av, .ref az, .ref af])), (asp, .inl (cI, 16, .inl sp)), (afa, .inl (cI, 16, .inl fa)), (ado, .inl (cI, 16, .inl dr)), (adt, .inl (cI, 16, .inl dt)), (ah, .inl (cI, 16, .inl (fun _ => (-1)))), (am, .inl (cI, 16, .inl (fun _ => (nI 0)))), (at_, .inl (cI, 16, .inl (fun _ => (nI 0))))] H := hP
  have hD : va_D A [(ra, .inr (1, [.ref hp, .ref ah, .ref am, .ref at_, .ref asp, .ref afa, .ref ado, .ref adt, .ref aor, .int (nI cr), .int (nI ho), .int (nI nx), .int (nI ba), .int (nI pl), .int (nI tk), .long rr])), (hp, .inr (0, [.int (nI n), .ref aw, .ref av, .ref az, .ref af])), (asp, .inl (cI, 16, .inl sp)), (afa, .inl (cI, 16, .inl fa)), (ado, .inl (cI, 16, .inl dr)), (adt, .inl (cI, 16, .inl dt)), (ah, .inl (cI, 16, .inl (fun _ => (-1)))), (am, .inl (cI, 16, .inl (fun _ => (nI 0)))), (at_, .inl (cI, 16, .inl (fun _ => (nI 0))))] := hD
  refine lv_aload_n hx hb zd_Q_begin_24 rfl (lv_at hl 0 rfl) ?_
  refine va_get (D := (dC, dI)) (ci := 1) (v := .ref asp) (C := zR_Q) (T := zF_Q) (N := 16) hx hb htz zi_Q hown hK hP 0 rfl rfl 4 (by decide) (htz _ zq_65) (fun _ h9 => h9) rfl zd_Q_begin_25 ?_
  refine lv_iconst (v := (nI 0)) hx hb zd_Q_begin_28 (by decide) ?_
  refine z_Sv (As := [.ref asp, .int (nI 0)]) (rest := []) (wc := [(asp, .inl (cI, 16, .inl sp))]) (wr := [(ra, .inr (1, [.ref hp, .ref ah, .ref am, .ref at_, .ref asp, .ref afa, .ref ado, .ref adt, .ref aor, .int (nI cr), .int (nI ho), .int (nI nx), .int (nI ba), .int (nI pl), .int (nI tk), .long rr])), (hp, .inr (0, [.int (nI n), .ref aw, .ref av, .ref az, .ref af])), (afa, .inl (cI, 16, .inl fa)), (ado, .inl (cI, 16, .inl dr)), (adt, .inl (cI, 16, .inl dt)), (ah, .inl (cI, 16, .inl (fun _ => (-1)))), (am, .inl (cI, 16, .inl (fun _ => (nI 0)))), (at_, .inl (cI, 16, .inl (fun _ => (nI 0))))]) ⟨hx, hb, hml, hown, htz⟩ hK hP hD hS hA (k_Arrays_fill l dC dI cI cJ cZ asp sp (nI 0) H.size) (zcwS 2 htz zq_35 zq_266 zq_34 zq_4 (by decide +kernel) ⟨Nat.le_of_ble_eq_true rfl, Nat.le_of_ble_eq_true rfl⟩) [2] [0, 1, 3, 4, 5, 6, 7, 8] rfl rfl rfl (by decide) rfl hl.1 rfl (Nat.le_of_ble_eq_true rfl) zd_Q_begin_29 ⟨Nat.le_of_ble_eq_true rfl, Nat.le_of_ble_eq_true rfl⟩ (fun u H locs hw hP hD hS => ?_)
  obtain rfl := hw
  have hP : va_P (dC, dI) zcl [(ra, .inr (1, [.ref hp, .ref ah, .ref am, .ref at_, .ref asp, .ref afa, .ref ado, .ref adt, .ref aor, .int (nI cr), .int (nI ho), .int (nI nx), .int (nI ba), .int (nI pl), .int (nI tk), .long rr])), (hp, .inr (0, [.int (nI n), .ref aw, .ref av, .ref az, .ref af])), (afa, .inl (cI, 16, .inl fa)), (ado, .inl (cI, 16, .inl dr)), (adt, .inl (cI, 16, .inl dt)), (ah, .inl (cI, 16, .inl (fun _ => (-1)))), (am, .inl (cI, 16, .inl (fun _ => (nI 0)))), (at_, .inl (cI, 16, .inl (fun _ => (nI 0)))), (asp, .inl (cI, 16, .inl (fun _ => (nI 0))))] H := hP
  have hD : va_D A [(ra, .inr (1, [.ref hp, .ref ah, .ref am, .ref at_, .ref asp, .ref afa, .ref ado, .ref adt, .ref aor, .int (nI cr), .int (nI ho), .int (nI nx), .int (nI ba), .int (nI pl), .int (nI tk), .long rr])), (hp, .inr (0, [.int (nI n), .ref aw, .ref av, .ref az, .ref af])), (afa, .inl (cI, 16, .inl fa)), (ado, .inl (cI, 16, .inl dr)), (adt, .inl (cI, 16, .inl dt)), (ah, .inl (cI, 16, .inl (fun _ => (-1)))), (am, .inl (cI, 16, .inl (fun _ => (nI 0)))), (at_, .inl (cI, 16, .inl (fun _ => (nI 0)))), (asp, .inl (cI, 16, .inl (fun _ => (nI 0))))] := hD
  refine lv_aload_n hx hb zd_Q_begin_32 rfl (lv_at hl 0 rfl) ?_
  refine va_get (D := (dC, dI)) (ci := 1) (v := .ref afa) (C := zR_Q) (T := zF_Q) (N := 16) hx hb htz zi_Q hown hK hP 0 rfl rfl 5 (by decide) (htz _ zq_66) (fun _ h9 => h9) rfl zd_Q_begin_33 ?_
  refine lv_iconst (v := (nI 0)) hx hb zd_Q_begin_36 (by decide) ?_
  refine z_Sv (As := [.ref afa, .int (nI 0)]) (rest := []) (wc := [(afa, .inl (cI, 16, .inl fa))]) (wr := [(ra, .inr (1, [.ref hp, .ref ah, .ref am, .ref at_, .ref asp, .ref afa, .ref ado, .ref adt, .ref aor, .int (nI cr), .int (nI ho), .int (nI nx), .int (nI ba), .int (nI pl), .int (nI tk), .long rr])), (hp, .inr (0, [.int (nI n), .ref aw, .ref av, .ref az, .ref af])), (ado, .inl (cI, 16, .inl dr)), (adt, .inl (cI, 16, .inl dt)), (ah, .inl (cI, 16, .inl (fun _ => (-1)))), (am, .inl (cI, 16, .inl (fun _ => (nI 0)))), (at_, .inl (cI, 16, .inl (fun _ => (nI 0)))), (asp, .inl (cI, 16, .inl (fun _ => (nI 0))))]) ⟨hx, hb, hml, hown, htz⟩ hK hP hD hS hA (k_Arrays_fill l dC dI cI cJ cZ afa fa (nI 0) H.size) (zcwS 2 htz zq_35 zq_266 zq_34 zq_4 (by decide +kernel) ⟨Nat.le_of_ble_eq_true rfl, Nat.le_of_ble_eq_true rfl⟩) [2] [0, 1, 3, 4, 5, 6, 7, 8] rfl rfl rfl (by decide) rfl hl.1 rfl (Nat.le_of_ble_eq_true rfl) zd_Q_begin_37 ⟨Nat.le_of_ble_eq_true rfl, Nat.le_of_ble_eq_true rfl⟩ (fun u H locs hw hP hD hS => ?_)
  obtain rfl := hw
  have hP : va_P (dC, dI) zcl [(ra, .inr (1, [.ref hp, .ref ah, .ref am, .ref at_, .ref asp, .ref afa, .ref ado, .ref adt, .ref aor, .int (nI cr), .int (nI ho), .int (nI nx), .int (nI ba), .int (nI pl), .int (nI tk), .long rr])), (hp, .inr (0, [.int (nI n), .ref aw, .ref av, .ref az, .ref af])), (ado, .inl (cI, 16, .inl dr)), (adt, .inl (cI, 16, .inl dt)), (ah, .inl (cI, 16, .inl (fun _ => (-1)))), (am, .inl (cI, 16, .inl (fun _ => (nI 0)))), (at_, .inl (cI, 16, .inl (fun _ => (nI 0)))), (asp, .inl (cI, 16, .inl (fun _ => (nI 0)))), (afa, .inl (cI, 16, .inl (fun _ => (nI 0))))] H := hP
  have hD : va_D A [(ra, .inr (1, [.ref hp, .ref ah, .ref am, .ref at_, .ref asp, .ref afa, .ref ado, .ref adt, .ref aor, .int (nI cr), .int (nI ho), .int (nI nx), .int (nI ba), .int (nI pl), .int (nI tk), .long rr])), (hp, .inr (0, [.int (nI n), .ref aw, .ref av, .ref az, .ref af])), (ado, .inl (cI, 16, .inl dr)), (adt, .inl (cI, 16, .inl dt)), (ah, .inl (cI, 16, .inl (fun _ => (-1)))), (am, .inl (cI, 16, .inl (fun _ => (nI 0)))), (at_, .inl (cI, 16, .inl (fun _ => (nI 0)))), (asp, .inl (cI, 16, .inl (fun _ => (nI 0)))), (afa, .inl (cI, 16, .inl (fun _ => (nI 0))))] := hD
  refine lv_aload_n hx hb zd_Q_begin_40 rfl (lv_at hl 0 rfl) ?_
  refine va_get (D := (dC, dI)) (ci := 1) (v := .ref ado) (C := zR_Q) (T := zF_Q) (N := 16) hx hb htz zi_Q hown hK hP 0 rfl rfl 6 (by decide) (htz _ zq_67) (fun _ h9 => h9) rfl zd_Q_begin_41 ?_
  refine lv_iconst (v := (-1)) hx hb zd_Q_begin_44 (by decide) ?_
  refine z_Sv (As := [.ref ado, .int (-1)]) (rest := []) (wc := [(ado, .inl (cI, 16, .inl dr))]) (wr := [(ra, .inr (1, [.ref hp, .ref ah, .ref am, .ref at_, .ref asp, .ref afa, .ref ado, .ref adt, .ref aor, .int (nI cr), .int (nI ho), .int (nI nx), .int (nI ba), .int (nI pl), .int (nI tk), .long rr])), (hp, .inr (0, [.int (nI n), .ref aw, .ref av, .ref az, .ref af])), (adt, .inl (cI, 16, .inl dt)), (ah, .inl (cI, 16, .inl (fun _ => (-1)))), (am, .inl (cI, 16, .inl (fun _ => (nI 0)))), (at_, .inl (cI, 16, .inl (fun _ => (nI 0)))), (asp, .inl (cI, 16, .inl (fun _ => (nI 0)))), (afa, .inl (cI, 16, .inl (fun _ => (nI 0))))]) ⟨hx, hb, hml, hown, htz⟩ hK hP hD hS hA (k_Arrays_fill l dC dI cI cJ cZ ado dr (-1) H.size) (zcwS 2 htz zq_35 zq_266 zq_34 zq_4 (by decide +kernel) ⟨Nat.le_of_ble_eq_true rfl, Nat.le_of_ble_eq_true rfl⟩) [2] [0, 1, 3, 4, 5, 6, 7, 8] rfl rfl rfl (by decide) rfl hl.1 rfl (Nat.le_of_ble_eq_true rfl) zd_Q_begin_45 ⟨Nat.le_of_ble_eq_true rfl, Nat.le_of_ble_eq_true rfl⟩ (fun u H locs hw hP hD hS => ?_)
  obtain rfl := hw
  have hP : va_P (dC, dI) zcl [(ra, .inr (1, [.ref hp, .ref ah, .ref am, .ref at_, .ref asp, .ref afa, .ref ado, .ref adt, .ref aor, .int (nI cr), .int (nI ho), .int (nI nx), .int (nI ba), .int (nI pl), .int (nI tk), .long rr])), (hp, .inr (0, [.int (nI n), .ref aw, .ref av, .ref az, .ref af])), (adt, .inl (cI, 16, .inl dt)), (ah, .inl (cI, 16, .inl (fun _ => (-1)))), (am, .inl (cI, 16, .inl (fun _ => (nI 0)))), (at_, .inl (cI, 16, .inl (fun _ => (nI 0)))), (asp, .inl (cI, 16, .inl (fun _ => (nI 0)))), (afa, .inl (cI, 16, .inl (fun _ => (nI 0)))), (ado, .inl (cI, 16, .inl (fun _ => (-1))))] H := hP
  have hD : va_D A [(ra, .inr (1, [.ref hp, .ref ah, .ref am, .ref at_, .ref asp, .ref afa, .ref ado, .ref adt, .ref aor, .int (nI cr), .int (nI ho), .int (nI nx), .int (nI ba), .int (nI pl), .int (nI tk), .long rr])), (hp, .inr (0, [.int (nI n), .ref aw, .ref av, .ref az, .ref af])), (adt, .inl (cI, 16, .inl dt)), (ah, .inl (cI, 16, .inl (fun _ => (-1)))), (am, .inl (cI, 16, .inl (fun _ => (nI 0)))), (at_, .inl (cI, 16, .inl (fun _ => (nI 0)))), (asp, .inl (cI, 16, .inl (fun _ => (nI 0)))), (afa, .inl (cI, 16, .inl (fun _ => (nI 0)))), (ado, .inl (cI, 16, .inl (fun _ => (-1))))] := hD
  refine lv_aload_n hx hb zd_Q_begin_48 rfl (lv_at hl 0 rfl) ?_
  refine va_get (D := (dC, dI)) (ci := 1) (v := .ref adt) (C := zR_Q) (T := zF_Q) (N := 16) hx hb htz zi_Q hown hK hP 0 rfl rfl 7 (by decide) (htz _ zq_68) (fun _ h9 => h9) rfl zd_Q_begin_49 ?_
  refine lv_iconst (v := (nI 0)) hx hb zd_Q_begin_52 (by decide) ?_
  refine z_Sv (As := [.ref adt, .int (nI 0)]) (rest := []) (wc := [(adt, .inl (cI, 16, .inl dt))]) (wr := [(ra, .inr (1, [.ref hp, .ref ah, .ref am, .ref at_, .ref asp, .ref afa, .ref ado, .ref adt, .ref aor, .int (nI cr), .int (nI ho), .int (nI nx), .int (nI ba), .int (nI pl), .int (nI tk), .long rr])), (hp, .inr (0, [.int (nI n), .ref aw, .ref av, .ref az, .ref af])), (ah, .inl (cI, 16, .inl (fun _ => (-1)))), (am, .inl (cI, 16, .inl (fun _ => (nI 0)))), (at_, .inl (cI, 16, .inl (fun _ => (nI 0)))), (asp, .inl (cI, 16, .inl (fun _ => (nI 0)))), (afa, .inl (cI, 16, .inl (fun _ => (nI 0)))), (ado, .inl (cI, 16, .inl (fun _ => (-1))))]) ⟨hx, hb, hml, hown, htz⟩ hK hP hD hS hA (k_Arrays_fill l dC dI cI cJ cZ adt dt (nI 0) H.size) (zcwS 2 htz zq_35 zq_266 zq_34 zq_4 (by decide +kernel) ⟨Nat.le_of_ble_eq_true rfl, Nat.le_of_ble_eq_true rfl⟩) [2] [0, 1, 3, 4, 5, 6, 7, 8] rfl rfl rfl (by decide) rfl hl.1 rfl (Nat.le_of_ble_eq_true rfl) zd_Q_begin_53 ⟨Nat.le_of_ble_eq_true rfl, Nat.le_of_ble_eq_true rfl⟩ (fun u H locs hw hP hD hS => ?_)
  obtain rfl := hw
  have hP : va_P (dC, dI) zcl [(ra, .inr (1, [.ref hp, .ref ah, .ref am, .ref at_, .ref asp, .ref afa, .ref ado, .ref adt, .ref aor, .int (nI cr), .int (nI ho), .int (nI nx), .int (nI ba), .int (nI pl), .int (nI tk), .long rr])), (hp, .inr (0, [.int (nI n), .ref aw, .ref av, .ref az, .ref af])), (ah, .inl (cI, 16, .inl (fun _ => (-1)))), (am, .inl (cI, 16, .inl (fun _ => (nI 0)))), (at_, .inl (cI, 16, .inl (fun _ => (nI 0)))), (asp, .inl (cI, 16, .inl (fun _ => (nI 0)))), (afa, .inl (cI, 16, .inl (fun _ => (nI 0)))), (ado, .inl (cI, 16, .inl (fun _ => (-1)))), (adt, .inl (cI, 16, .inl (fun _ => (nI 0))))] H := hP
  have hD : va_D A [(ra, .inr (1, [.ref hp, .ref ah, .ref am, .ref at_, .ref asp, .ref afa, .ref ado, .ref adt, .ref aor, .int (nI cr), .int (nI ho), .int (nI nx), .int (nI ba), .int (nI pl), .int (nI tk), .long rr])), (hp, .inr (0, [.int (nI n), .ref aw, .ref av, .ref az, .ref af])), (ah, .inl (cI, 16, .inl (fun _ => (-1)))), (am, .inl (cI, 16, .inl (fun _ => (nI 0)))), (at_, .inl (cI, 16, .inl (fun _ => (nI 0)))), (asp, .inl (cI, 16, .inl (fun _ => (nI 0)))), (afa, .inl (cI, 16, .inl (fun _ => (nI 0)))), (ado, .inl (cI, 16, .inl (fun _ => (-1)))), (adt, .inl (cI, 16, .inl (fun _ => (nI 0))))] := hD
  refine lv_aload_n hx hb zd_Q_begin_56 rfl (lv_at hl 0 rfl) ?_
  refine lv_iconst (v := (nI 1)) hx hb zd_Q_begin_57 (by decide) ?_
  refine lv_bipush (v := (nI 16)) hx hb zd_Q_begin_58 (by decide) ?_
  refine lv_iload_n hx hb zd_Q_begin_60 rfl (lv_at hl 1 rfl) ?_
  refine va_mmin hx hb (hml.trans hl.1.symm) hown (htz _ zq_267) (htz _ zq_28) (htz _ zq_3) (htz _ zq_29) (Nat.le_of_ble_eq_true rfl) (Nat.le_of_ble_eq_true rfl) (Nat.le_of_ble_eq_true rfl) (Nat.le_of_ble_eq_true rfl) zd_Q_begin_61 ?_
  refine va_mmax hx hb (hml.trans hl.1.symm) hown (htz _ zq_268) (htz _ zq_31) (htz _ zq_3) (htz _ zq_32) (Nat.le_of_ble_eq_true rfl) (Nat.le_of_ble_eq_true rfl) (Nat.le_of_ble_eq_true rfl) (Nat.le_of_ble_eq_true rfl) zd_Q_begin_64 ?_
  refine z_topi (y := nI W0) (z_crew hw1 hw2) ?_
  refine va_put (D := (dC, dI)) (ci := 1) (v := .int (nI W0)) (ty := .int) (C := zR_Q) (T := zF_Q) (N := 16) hx hb htz zi_Q zt_Q zt_Q_ok zn_Q hown hK hP hD hS 0 rfl rfl 9 (by decide) (htz _ zq_70) (fun _ h9 => h9) rfl (by decide +kernel) rfl rfl (Nat.le_of_ble_eq_true rfl) zd_Q_begin_67 (fun H locs hP hD hS => ?_)
  have hP : va_P (dC, dI) zcl [(ra, .inr (1, [.ref hp, .ref ah, .ref am, .ref at_, .ref asp, .ref afa, .ref ado, .ref adt, .ref aor, .int (nI W0), .int (nI ho), .int (nI nx), .int (nI ba), .int (nI pl), .int (nI tk), .long rr])), (hp, .inr (0, [.int (nI n), .ref aw, .ref av, .ref az, .ref af])), (ah, .inl (cI, 16, .inl (fun _ => (-1)))), (am, .inl (cI, 16, .inl (fun _ => (nI 0)))), (at_, .inl (cI, 16, .inl (fun _ => (nI 0)))), (asp, .inl (cI, 16, .inl (fun _ => (nI 0)))), (afa, .inl (cI, 16, .inl (fun _ => (nI 0)))), (ado, .inl (cI, 16, .inl (fun _ => (-1)))), (adt, .inl (cI, 16, .inl (fun _ => (nI 0))))] H := hP
  have hD : va_D A [(ra, .inr (1, [.ref hp, .ref ah, .ref am, .ref at_, .ref asp, .ref afa, .ref ado, .ref adt, .ref aor, .int (nI W0), .int (nI ho), .int (nI nx), .int (nI ba), .int (nI pl), .int (nI tk), .long rr])), (hp, .inr (0, [.int (nI n), .ref aw, .ref av, .ref az, .ref af])), (ah, .inl (cI, 16, .inl (fun _ => (-1)))), (am, .inl (cI, 16, .inl (fun _ => (nI 0)))), (at_, .inl (cI, 16, .inl (fun _ => (nI 0)))), (asp, .inl (cI, 16, .inl (fun _ => (nI 0)))), (afa, .inl (cI, 16, .inl (fun _ => (nI 0)))), (ado, .inl (cI, 16, .inl (fun _ => (-1)))), (adt, .inl (cI, 16, .inl (fun _ => (nI 0))))] := hD
  refine lv_aload_n hx hb zd_Q_begin_70 rfl (lv_at hl 0 rfl) ?_
  refine lv_iconst (v := (nI 0)) hx hb zd_Q_begin_71 (by decide) ?_
  refine va_put (D := (dC, dI)) (ci := 1) (v := .int (nI 0)) (ty := .int) (C := zR_Q) (T := zF_Q) (N := 16) hx hb htz zi_Q zt_Q zt_Q_ok zn_Q hown hK hP hD hS 0 rfl rfl 10 (by decide) (htz _ zq_71) (fun _ h9 => h9) rfl (by decide +kernel) rfl rfl (Nat.le_of_ble_eq_true rfl) zd_Q_begin_72 (fun H locs hP hD hS => ?_)
  have hP : va_P (dC, dI) zcl [(ra, .inr (1, [.ref hp, .ref ah, .ref am, .ref at_, .ref asp, .ref afa, .ref ado, .ref adt, .ref aor, .int (nI W0), .int (nI 0), .int (nI nx), .int (nI ba), .int (nI pl), .int (nI tk), .long rr])), (hp, .inr (0, [.int (nI n), .ref aw, .ref av, .ref az, .ref af])), (ah, .inl (cI, 16, .inl (fun _ => (-1)))), (am, .inl (cI, 16, .inl (fun _ => (nI 0)))), (at_, .inl (cI, 16, .inl (fun _ => (nI 0)))), (asp, .inl (cI, 16, .inl (fun _ => (nI 0)))), (afa, .inl (cI, 16, .inl (fun _ => (nI 0)))), (ado, .inl (cI, 16, .inl (fun _ => (-1)))), (adt, .inl (cI, 16, .inl (fun _ => (nI 0))))] H := hP
  have hD : va_D A [(ra, .inr (1, [.ref hp, .ref ah, .ref am, .ref at_, .ref asp, .ref afa, .ref ado, .ref adt, .ref aor, .int (nI W0), .int (nI 0), .int (nI nx), .int (nI ba), .int (nI pl), .int (nI tk), .long rr])), (hp, .inr (0, [.int (nI n), .ref aw, .ref av, .ref az, .ref af])), (ah, .inl (cI, 16, .inl (fun _ => (-1)))), (am, .inl (cI, 16, .inl (fun _ => (nI 0)))), (at_, .inl (cI, 16, .inl (fun _ => (nI 0)))), (asp, .inl (cI, 16, .inl (fun _ => (nI 0)))), (afa, .inl (cI, 16, .inl (fun _ => (nI 0)))), (ado, .inl (cI, 16, .inl (fun _ => (-1)))), (adt, .inl (cI, 16, .inl (fun _ => (nI 0))))] := hD
  refine lv_aload_n hx hb zd_Q_begin_75 rfl (lv_at hl 0 rfl) ?_
  refine lv_iconst (v := (nI 0)) hx hb zd_Q_begin_76 (by decide) ?_
  refine va_put (D := (dC, dI)) (ci := 1) (v := .int (nI 0)) (ty := .int) (C := zR_Q) (T := zF_Q) (N := 16) hx hb htz zi_Q zt_Q zt_Q_ok zn_Q hown hK hP hD hS 0 rfl rfl 11 (by decide) (htz _ zq_72) (fun _ h9 => h9) rfl (by decide +kernel) rfl rfl (Nat.le_of_ble_eq_true rfl) zd_Q_begin_77 (fun H locs hP hD hS => ?_)
  have hP : va_P (dC, dI) zcl [(ra, .inr (1, [.ref hp, .ref ah, .ref am, .ref at_, .ref asp, .ref afa, .ref ado, .ref adt, .ref aor, .int (nI W0), .int (nI 0), .int (nI 0), .int (nI ba), .int (nI pl), .int (nI tk), .long rr])), (hp, .inr (0, [.int (nI n), .ref aw, .ref av, .ref az, .ref af])), (ah, .inl (cI, 16, .inl (fun _ => (-1)))), (am, .inl (cI, 16, .inl (fun _ => (nI 0)))), (at_, .inl (cI, 16, .inl (fun _ => (nI 0)))), (asp, .inl (cI, 16, .inl (fun _ => (nI 0)))), (afa, .inl (cI, 16, .inl (fun _ => (nI 0)))), (ado, .inl (cI, 16, .inl (fun _ => (-1)))), (adt, .inl (cI, 16, .inl (fun _ => (nI 0))))] H := hP
  have hD : va_D A [(ra, .inr (1, [.ref hp, .ref ah, .ref am, .ref at_, .ref asp, .ref afa, .ref ado, .ref adt, .ref aor, .int (nI W0), .int (nI 0), .int (nI 0), .int (nI ba), .int (nI pl), .int (nI tk), .long rr])), (hp, .inr (0, [.int (nI n), .ref aw, .ref av, .ref az, .ref af])), (ah, .inl (cI, 16, .inl (fun _ => (-1)))), (am, .inl (cI, 16, .inl (fun _ => (nI 0)))), (at_, .inl (cI, 16, .inl (fun _ => (nI 0)))), (asp, .inl (cI, 16, .inl (fun _ => (nI 0)))), (afa, .inl (cI, 16, .inl (fun _ => (nI 0)))), (ado, .inl (cI, 16, .inl (fun _ => (-1)))), (adt, .inl (cI, 16, .inl (fun _ => (nI 0))))] := hD
  refine lv_aload_n hx hb zd_Q_begin_80 rfl (lv_at hl 0 rfl) ?_
  refine lv_aload_n hx hb zd_Q_begin_81 rfl (lv_at hl 0 rfl) ?_
  refine va_get (D := (dC, dI)) (ci := 1) (v := .ref hp) (C := zR_Q) (T := zF_Q) (N := 16) hx hb htz zi_Q hown hK hP 0 rfl rfl 0 (by decide) (htz _ zq_61) (fun _ h9 => h9) rfl zd_Q_begin_82 ?_
  refine z_Vi (As := []) (rest := [.ref ra]) (wc := [(hp, .inr (0, [.int (nI n), .ref aw, .ref av, .ref az, .ref af]))]) (wr := [(ra, .inr (1, [.ref hp, .ref ah, .ref am, .ref at_, .ref asp, .ref afa, .ref ado, .ref adt, .ref aor, .int (nI W0), .int (nI 0), .int (nI 0), .int (nI ba), .int (nI pl), .int (nI tk), .long rr])), (ah, .inl (cI, 16, .inl (fun _ => (-1)))), (am, .inl (cI, 16, .inl (fun _ => (nI 0)))), (at_, .inl (cI, 16, .inl (fun _ => (nI 0)))), (asp, .inl (cI, 16, .inl (fun _ => (nI 0)))), (afa, .inl (cI, 16, .inl (fun _ => (nI 0)))), (ado, .inl (cI, 16, .inl (fun _ => (-1)))), (adt, .inl (cI, 16, .inl (fun _ => (nI 0))))]) ⟨hx, hb, hml, hown, htz⟩ hK hP hD hS hA (k_Plan_size l dC dI cI cJ cZ hp aw av az af n H.size) (zcwV 0 htz zq_127 zq_269 zq_125 zq_126 zq_2 (by decide +kernel) ⟨Nat.le_of_ble_eq_true rfl, Nat.le_of_ble_eq_true rfl⟩) 1 0 rfl rfl [1] [0, 2, 3, 4, 5, 6, 7, 8] rfl rfl rfl (by decide) rfl hl.1 rfl (Nat.le_of_ble_eq_true rfl) zd_Q_begin_85 ⟨Nat.le_of_ble_eq_true rfl, Nat.le_of_ble_eq_true rfl⟩ (fun r u H locs hw hP hD hS => ?_)
  obtain ⟨rfl, rfl⟩ := hw
  have hP : va_P (dC, dI) zcl [(ra, .inr (1, [.ref hp, .ref ah, .ref am, .ref at_, .ref asp, .ref afa, .ref ado, .ref adt, .ref aor, .int (nI W0), .int (nI 0), .int (nI 0), .int (nI ba), .int (nI pl), .int (nI tk), .long rr])), (ah, .inl (cI, 16, .inl (fun _ => (-1)))), (am, .inl (cI, 16, .inl (fun _ => (nI 0)))), (at_, .inl (cI, 16, .inl (fun _ => (nI 0)))), (asp, .inl (cI, 16, .inl (fun _ => (nI 0)))), (afa, .inl (cI, 16, .inl (fun _ => (nI 0)))), (ado, .inl (cI, 16, .inl (fun _ => (-1)))), (adt, .inl (cI, 16, .inl (fun _ => (nI 0)))), (hp, .inr (0, [.int (nI n), .ref aw, .ref av, .ref az, .ref af]))] H := hP
  have hD : va_D A [(ra, .inr (1, [.ref hp, .ref ah, .ref am, .ref at_, .ref asp, .ref afa, .ref ado, .ref adt, .ref aor, .int (nI W0), .int (nI 0), .int (nI 0), .int (nI ba), .int (nI pl), .int (nI tk), .long rr])), (ah, .inl (cI, 16, .inl (fun _ => (-1)))), (am, .inl (cI, 16, .inl (fun _ => (nI 0)))), (at_, .inl (cI, 16, .inl (fun _ => (nI 0)))), (asp, .inl (cI, 16, .inl (fun _ => (nI 0)))), (afa, .inl (cI, 16, .inl (fun _ => (nI 0)))), (ado, .inl (cI, 16, .inl (fun _ => (-1)))), (adt, .inl (cI, 16, .inl (fun _ => (nI 0)))), (hp, .inr (0, [.int (nI n), .ref aw, .ref av, .ref az, .ref af]))] := hD
  refine va_put (D := (dC, dI)) (ci := 1) (v := .int (nI n)) (ty := .int) (C := zR_Q) (T := zF_Q) (N := 16) hx hb htz zi_Q zt_Q zt_Q_ok zn_Q hown hK hP hD hS 0 rfl rfl 12 (by decide) (htz _ zq_73) (fun _ h9 => h9) rfl (by decide +kernel) rfl rfl (Nat.le_of_ble_eq_true rfl) zd_Q_begin_88 (fun H locs hP hD hS => ?_)
  have hP : va_P (dC, dI) zcl [(ra, .inr (1, [.ref hp, .ref ah, .ref am, .ref at_, .ref asp, .ref afa, .ref ado, .ref adt, .ref aor, .int (nI W0), .int (nI 0), .int (nI 0), .int (nI n), .int (nI pl), .int (nI tk), .long rr])), (ah, .inl (cI, 16, .inl (fun _ => (-1)))), (am, .inl (cI, 16, .inl (fun _ => (nI 0)))), (at_, .inl (cI, 16, .inl (fun _ => (nI 0)))), (asp, .inl (cI, 16, .inl (fun _ => (nI 0)))), (afa, .inl (cI, 16, .inl (fun _ => (nI 0)))), (ado, .inl (cI, 16, .inl (fun _ => (-1)))), (adt, .inl (cI, 16, .inl (fun _ => (nI 0)))), (hp, .inr (0, [.int (nI n), .ref aw, .ref av, .ref az, .ref af]))] H := hP
  have hD : va_D A [(ra, .inr (1, [.ref hp, .ref ah, .ref am, .ref at_, .ref asp, .ref afa, .ref ado, .ref adt, .ref aor, .int (nI W0), .int (nI 0), .int (nI 0), .int (nI n), .int (nI pl), .int (nI tk), .long rr])), (ah, .inl (cI, 16, .inl (fun _ => (-1)))), (am, .inl (cI, 16, .inl (fun _ => (nI 0)))), (at_, .inl (cI, 16, .inl (fun _ => (nI 0)))), (asp, .inl (cI, 16, .inl (fun _ => (nI 0)))), (afa, .inl (cI, 16, .inl (fun _ => (nI 0)))), (ado, .inl (cI, 16, .inl (fun _ => (-1)))), (adt, .inl (cI, 16, .inl (fun _ => (nI 0)))), (hp, .inr (0, [.int (nI n), .ref aw, .ref av, .ref az, .ref af]))] := hD
  refine lv_aload_n hx hb zd_Q_begin_91 rfl (lv_at hl 0 rfl) ?_
  refine lv_iconst (v := (nI 0)) hx hb zd_Q_begin_92 (by decide) ?_
  refine va_put (D := (dC, dI)) (ci := 1) (v := .int (nI 0)) (ty := .int) (C := zR_Q) (T := zF_Q) (N := 16) hx hb htz zi_Q zt_Q zt_Q_ok zn_Q hown hK hP hD hS 0 rfl rfl 13 (by decide) (htz _ zq_74) (fun _ h9 => h9) rfl (by decide +kernel) rfl rfl (Nat.le_of_ble_eq_true rfl) zd_Q_begin_93 (fun H locs hP hD hS => ?_)
  have hP : va_P (dC, dI) zcl [(ra, .inr (1, [.ref hp, .ref ah, .ref am, .ref at_, .ref asp, .ref afa, .ref ado, .ref adt, .ref aor, .int (nI W0), .int (nI 0), .int (nI 0), .int (nI n), .int (nI 0), .int (nI tk), .long rr])), (ah, .inl (cI, 16, .inl (fun _ => (-1)))), (am, .inl (cI, 16, .inl (fun _ => (nI 0)))), (at_, .inl (cI, 16, .inl (fun _ => (nI 0)))), (asp, .inl (cI, 16, .inl (fun _ => (nI 0)))), (afa, .inl (cI, 16, .inl (fun _ => (nI 0)))), (ado, .inl (cI, 16, .inl (fun _ => (-1)))), (adt, .inl (cI, 16, .inl (fun _ => (nI 0)))), (hp, .inr (0, [.int (nI n), .ref aw, .ref av, .ref az, .ref af]))] H := hP
  have hD : va_D A [(ra, .inr (1, [.ref hp, .ref ah, .ref am, .ref at_, .ref asp, .ref afa, .ref ado, .ref adt, .ref aor, .int (nI W0), .int (nI 0), .int (nI 0), .int (nI n), .int (nI 0), .int (nI tk), .long rr])), (ah, .inl (cI, 16, .inl (fun _ => (-1)))), (am, .inl (cI, 16, .inl (fun _ => (nI 0)))), (at_, .inl (cI, 16, .inl (fun _ => (nI 0)))), (asp, .inl (cI, 16, .inl (fun _ => (nI 0)))), (afa, .inl (cI, 16, .inl (fun _ => (nI 0)))), (ado, .inl (cI, 16, .inl (fun _ => (-1)))), (adt, .inl (cI, 16, .inl (fun _ => (nI 0)))), (hp, .inr (0, [.int (nI n), .ref aw, .ref av, .ref az, .ref af]))] := hD
  refine lv_aload_n hx hb zd_Q_begin_96 rfl (lv_at hl 0 rfl) ?_
  refine lv_iconst (v := (nI 0)) hx hb zd_Q_begin_97 (by decide) ?_
  refine va_put (D := (dC, dI)) (ci := 1) (v := .int (nI 0)) (ty := .int) (C := zR_Q) (T := zF_Q) (N := 16) hx hb htz zi_Q zt_Q zt_Q_ok zn_Q hown hK hP hD hS 0 rfl rfl 14 (by decide) (htz _ zq_75) (fun _ h9 => h9) rfl (by decide +kernel) rfl rfl (Nat.le_of_ble_eq_true rfl) zd_Q_begin_98 (fun H locs hP hD hS => ?_)
  have hP : va_P (dC, dI) zcl [(ra, .inr (1, [.ref hp, .ref ah, .ref am, .ref at_, .ref asp, .ref afa, .ref ado, .ref adt, .ref aor, .int (nI W0), .int (nI 0), .int (nI 0), .int (nI n), .int (nI 0), .int (nI 0), .long rr])), (ah, .inl (cI, 16, .inl (fun _ => (-1)))), (am, .inl (cI, 16, .inl (fun _ => (nI 0)))), (at_, .inl (cI, 16, .inl (fun _ => (nI 0)))), (asp, .inl (cI, 16, .inl (fun _ => (nI 0)))), (afa, .inl (cI, 16, .inl (fun _ => (nI 0)))), (ado, .inl (cI, 16, .inl (fun _ => (-1)))), (adt, .inl (cI, 16, .inl (fun _ => (nI 0)))), (hp, .inr (0, [.int (nI n), .ref aw, .ref av, .ref az, .ref af]))] H := hP
  have hD : va_D A [(ra, .inr (1, [.ref hp, .ref ah, .ref am, .ref at_, .ref asp, .ref afa, .ref ado, .ref adt, .ref aor, .int (nI W0), .int (nI 0), .int (nI 0), .int (nI n), .int (nI 0), .int (nI 0), .long rr])), (ah, .inl (cI, 16, .inl (fun _ => (-1)))), (am, .inl (cI, 16, .inl (fun _ => (nI 0)))), (at_, .inl (cI, 16, .inl (fun _ => (nI 0)))), (asp, .inl (cI, 16, .inl (fun _ => (nI 0)))), (afa, .inl (cI, 16, .inl (fun _ => (nI 0)))), (ado, .inl (cI, 16, .inl (fun _ => (-1)))), (adt, .inl (cI, 16, .inl (fun _ => (nI 0)))), (hp, .inr (0, [.int (nI n), .ref aw, .ref av, .ref az, .ref af]))] := hD
  refine lv_aload_n hx hb zd_Q_begin_101 rfl (lv_at hl 0 rfl) ?_
  refine lv_lload_n hx hb zd_Q_begin_102 rfl (lv_at hl 2 rfl) ?_
  refine va_put (D := (dC, dI)) (ci := 1) (v := .long sd) (ty := .long) (C := zR_Q) (T := zF_Q) (N := 16) hx hb htz zi_Q zt_Q zt_Q_ok zn_Q hown hK hP hD hS 0 rfl rfl 15 (by decide) (htz _ zq_76) (fun _ h9 => h9) rfl (by decide +kernel) rfl rfl (Nat.le_of_ble_eq_true rfl) zd_Q_begin_103 (fun H locs hP hD hS => ?_)
  have hP : va_P (dC, dI) zcl [(ra, .inr (1, [.ref hp, .ref ah, .ref am, .ref at_, .ref asp, .ref afa, .ref ado, .ref adt, .ref aor, .int (nI W0), .int (nI 0), .int (nI 0), .int (nI n), .int (nI 0), .int (nI 0), .long sd])), (ah, .inl (cI, 16, .inl (fun _ => (-1)))), (am, .inl (cI, 16, .inl (fun _ => (nI 0)))), (at_, .inl (cI, 16, .inl (fun _ => (nI 0)))), (asp, .inl (cI, 16, .inl (fun _ => (nI 0)))), (afa, .inl (cI, 16, .inl (fun _ => (nI 0)))), (ado, .inl (cI, 16, .inl (fun _ => (-1)))), (adt, .inl (cI, 16, .inl (fun _ => (nI 0)))), (hp, .inr (0, [.int (nI n), .ref aw, .ref av, .ref az, .ref af]))] H := hP
  have hD : va_D A [(ra, .inr (1, [.ref hp, .ref ah, .ref am, .ref at_, .ref asp, .ref afa, .ref ado, .ref adt, .ref aor, .int (nI W0), .int (nI 0), .int (nI 0), .int (nI n), .int (nI 0), .int (nI 0), .long sd])), (ah, .inl (cI, 16, .inl (fun _ => (-1)))), (am, .inl (cI, 16, .inl (fun _ => (nI 0)))), (at_, .inl (cI, 16, .inl (fun _ => (nI 0)))), (asp, .inl (cI, 16, .inl (fun _ => (nI 0)))), (afa, .inl (cI, 16, .inl (fun _ => (nI 0)))), (ado, .inl (cI, 16, .inl (fun _ => (-1)))), (adt, .inl (cI, 16, .inl (fun _ => (nI 0)))), (hp, .inr (0, [.int (nI n), .ref aw, .ref av, .ref az, .ref af]))] := hD
  have hP := hP.sub (ws' := [(ra, .inr (1, [.ref hp, .ref ah, .ref am, .ref at_, .ref asp, .ref afa, .ref ado, .ref adt, .ref aor, .int (nI W0), .int (nI 0), .int (nI 0), .int (nI n), .int (nI 0), .int (nI 0), .long sd])), (hp, .inr (0, [.int (nI n), .ref aw, .ref av, .ref az, .ref af])), (ah, .inl (cI, 16, .inl (fun _ => (-1)))), (am, .inl (cI, 16, .inl (fun _ => (nI 0)))), (at_, .inl (cI, 16, .inl (fun _ => (nI 0)))), (asp, .inl (cI, 16, .inl (fun _ => (nI 0)))), (afa, .inl (cI, 16, .inl (fun _ => (nI 0)))), (ado, .inl (cI, 16, .inl (fun _ => (-1)))), (adt, .inl (cI, 16, .inl (fun _ => (nI 0))))]) [0, 8, 1, 2, 3, 4, 5, 6, 7] rfl
  have hD := hD.sub (ws' := [(ra, .inr (1, [.ref hp, .ref ah, .ref am, .ref at_, .ref asp, .ref afa, .ref ado, .ref adt, .ref aor, .int (nI W0), .int (nI 0), .int (nI 0), .int (nI n), .int (nI 0), .int (nI 0), .long sd])), (hp, .inr (0, [.int (nI n), .ref aw, .ref av, .ref az, .ref af])), (ah, .inl (cI, 16, .inl (fun _ => (-1)))), (am, .inl (cI, 16, .inl (fun _ => (nI 0)))), (at_, .inl (cI, 16, .inl (fun _ => (nI 0)))), (asp, .inl (cI, 16, .inl (fun _ => (nI 0)))), (afa, .inl (cI, 16, .inl (fun _ => (nI 0)))), (ado, .inl (cI, 16, .inl (fun _ => (-1)))), (adt, .inl (cI, 16, .inl (fun _ => (nI 0))))]) [0, 8, 1, 2, 3, 4, 5, 6, 7] (by decide) rfl
  exact z_vret hx hb hr hlocks hP hK hD hS zd_Q_begin_106 (by decide) (by decide) rfl
set_option maxHeartbeats 4000000 in
set_option maxRecDepth 100000 in
/--  -/
theorem k_Race_countedTicks (l : Launch) (dC : Nat → ClassId) (dI : Nat → Nat → Nat) (cI cJ cZ : ClassId) (ra : Nat) (hp : Nat) (ah : Nat) (am : Nat) (at_ : Nat) (asp : Nat) (afa : Nat) (ado : Nat) (adt : Nat) (aor : Nat) (cr : Nat) (ho : Nat) (nx : Nat) (ba : Nat) (pl : Nat) (tk : Nat) (rr : Int64) (aw : Nat) (av : Nat) (az : Nat) (af : Nat) (n : Nat) (se : Nat → Int32) (sp : Nat → Int32) (hn : n ≤ 16) (hn1 : 1 ≤ n) (sz : Nat) : zMi l zy_Q_countedTicks zw_Q_countedTicks ({ frames := 1, cells := 0, slots := 0, locals := 21 }) [.ref ra] (dC, dI) zcl [(cI, .int), (cJ, .long), (cZ, .boolean)] [(ra, .inr (1, [.ref hp, .ref ah, .ref am, .ref at_, .ref asp, .ref afa, .ref ado, .ref adt, .ref aor, .int (nI cr), .int (nI ho), .int (nI nx), .int (nI ba), .int (nI pl), .int (nI tk), .long rr])), (hp, .inr (0, [.int (nI n), .ref aw, .ref av, .ref az, .ref af])), (az, .inl (cZ, 16, .inl se)), (asp, .inl (cI, 16, .inl sp))] sz (fun (r : Int32) (u : va_W) => r = zsumI sp (zlast se n) ∧ u = [(ra, .inr (1, [.ref hp, .ref ah, .ref am, .ref at_, .ref asp, .ref afa, .ref ado, .ref adt, .ref aor, .int (nI cr), .int (nI ho), .int (nI nx), .int (nI ba), .int (nI pl), .int (nI tk), .long rr])), (hp, .inr (0, [.int (nI n), .ref aw, .ref av, .ref az, .ref af])), (az, .inl (cZ, 16, .inl se)), (asp, .inl (cI, 16, .inl sp))]) := by
  refine z_ofi (cc := zc_Q_countedTicks) (maxL := 5) (ret := (some .int)) (by decide) rfl (Nat.le_of_ble_eq_true rfl) ?_
  intro p e s m below meth c A ls hx hb hr hml hown htz hlocks hin hA hP hK hD hS hl
  have hown : s.vm.findClass zR_Q = some m.cls := hown
  have hl : lv_has ls 5 [(0, .ref ra)] := hl
  refine lv_aload_n hx hb zd_Q_countedTicks_0 rfl (lv_at hl 0 rfl) ?_
  refine va_get (D := (dC, dI)) (ci := 1) (v := .ref hp) (C := zR_Q) (T := zF_Q) (N := 16) hx hb htz zi_Q hown hK hP 0 rfl rfl 0 (by decide) (htz _ zq_61) (fun _ h9 => h9) rfl zd_Q_countedTicks_1 ?_
  refine z_Vi (As := []) (rest := []) (wc := [(hp, .inr (0, [.int (nI n), .ref aw, .ref av, .ref az, .ref af])), (az, .inl (cZ, 16, .inl se))]) (wr := [(ra, .inr (1, [.ref hp, .ref ah, .ref am, .ref at_, .ref asp, .ref afa, .ref ado, .ref adt, .ref aor, .int (nI cr), .int (nI ho), .int (nI nx), .int (nI ba), .int (nI pl), .int (nI tk), .long rr])), (asp, .inl (cI, 16, .inl sp))]) ⟨hx, hb, hml, hown, htz⟩ hK hP hD hS hA (k_Plan_winner l dC dI cI cJ cZ hp aw av az af n se (by first | assumption | omega) s.heap.size) (zcwV 0 htz zq_332 zq_381 zq_330 zq_331 zq_2 (by decide +kernel) ⟨Nat.le_of_ble_eq_true rfl, Nat.le_of_ble_eq_true rfl⟩) 1 0 rfl rfl [1, 2] [0, 3] rfl rfl rfl (by decide) rfl hl.1 rfl (Nat.le_of_ble_eq_true rfl) zd_Q_countedTicks_4 ⟨Nat.le_of_ble_eq_true rfl, Nat.le_of_ble_eq_true rfl⟩ (fun r u H locs hw hP hD hS => ?_)
  rcases hw with ⟨rfl, rfl, hw1_⟩ | ⟨rfl, rfl, hw2_⟩
  · have hP : va_P (dC, dI) zcl [(ra, .inr (1, [.ref hp, .ref ah, .ref am, .ref at_, .ref asp, .ref afa, .ref ado, .ref adt, .ref aor, .int (nI cr), .int (nI ho), .int (nI nx), .int (nI ba), .int (nI pl), .int (nI tk), .long rr])), (asp, .inl (cI, 16, .inl sp)), (hp, .inr (0, [.int (nI n), .ref aw, .ref av, .ref az, .ref af])), (az, .inl (cZ, 16, .inl se))] H := hP
    have hD : va_D A [(ra, .inr (1, [.ref hp, .ref ah, .ref am, .ref at_, .ref asp, .ref afa, .ref ado, .ref adt, .ref aor, .int (nI cr), .int (nI ho), .int (nI nx), .int (nI ba), .int (nI pl), .int (nI tk), .long rr])), (asp, .inl (cI, 16, .inl sp)), (hp, .inr (0, [.int (nI n), .ref aw, .ref av, .ref az, .ref af])), (az, .inl (cZ, 16, .inl se))] := hD
    have hw9 := hw1_
    refine lv_istore_n (lv' := [(1, .int (nI (zwin se n))), (0, .ref ra)]) hx hb zd_Q_countedTicks_7 rfl hl (by decide) rfl (fun ls hl => ?_)
    refine lv_iload_n hx hb zd_Q_countedTicks_8 rfl (lv_at hl 0 rfl) ?_
    refine lv_iconst (v := (-1)) hx hb zd_Q_countedTicks_9 (by decide) ?_
    refine lv_icmp_ne (tgt := 25) hx hb zd_Q_countedTicks_10 (by decide) (fun c3_ => ?_) (fun c3_ => absurd c3_ (nI_nm1 (by omega)))
    refine lv_iload_n hx hb zd_Q_countedTicks_25 rfl (lv_at hl 0 rfl) ?_
    obtain ⟨q9, hq9⟩ : ∃ q9, q9 = (zwin se n) := ⟨_, rfl⟩
    refine z_topi (y := nI q9) (by rw [hq9]) ?_
    have hq1 : q9 < 16 := by omega
    have hq2 : q9 + 1 = zlast se n := by simp only [zlast]; split <;> omega
    refine lv_istore_n (lv' := [(2, .int (nI q9)), (1, .int (nI (zwin se n))), (0, .ref ra)]) hx hb zd_Q_countedTicks_26 rfl hl (by decide) rfl (fun ls hl => ?_)
    refine lv_iconst (v := (nI 0)) hx hb zd_Q_countedTicks_27 (by decide) ?_
    refine lv_istore_n (lv' := [(3, .int (nI 0)), (2, .int (nI q9)), (1, .int (nI (zwin se n))), (0, .ref ra)]) hx hb zd_Q_countedTicks_28 rfl hl (by decide) rfl (fun ls hl => ?_)
    refine lv_iconst (v := (nI 0)) hx hb zd_Q_countedTicks_29 (by decide) ?_
    refine lv_istore (lv' := [(4, .int (nI 0)), (3, .int (nI 0)), (2, .int (nI q9)), (1, .int (nI (zwin se n))), (0, .ref ra)]) hx hb zd_Q_countedTicks_30 hl (by decide) rfl (fun ls hl => ?_)
    have lp32 : ∀ (fuel : Nat) (k : Nat) (sm : Int32) (H : Heap) (locs : List Loc) (ls : Array Slot), (k ≤ q9 + 1) → (sm = zsumI sp k) → q9 + 1 - k < fuel → va_P (dC, dI) zcl [(ra, .inr (1, [.ref hp, .ref ah, .ref am, .ref at_, .ref asp, .ref afa, .ref ado, .ref adt, .ref aor, .int (nI cr), .int (nI ho), .int (nI nx), .int (nI ba), .int (nI pl), .int (nI tk), .long rr])), (asp, .inl (cI, 16, .inl sp)), (hp, .inr (0, [.int (nI n), .ref aw, .ref av, .ref az, .ref af])), (az, .inl (cZ, 16, .inl se))] H → va_D A [(ra, .inr (1, [.ref hp, .ref ah, .ref am, .ref at_, .ref asp, .ref afa, .ref ado, .ref adt, .ref aor, .int (nI cr), .int (nI ho), .int (nI nx), .int (nI ba), .int (nI pl), .int (nI tk), .long rr])), (asp, .inl (cI, 16, .inl sp)), (hp, .inr (0, [.int (nI n), .ref aw, .ref av, .ref az, .ref af])), (az, .inl (cZ, 16, .inl se))] → va_S A s.heap H locs → lv_has ls 5 [(4, .int (nI k)), (3, .int sm), (2, .int (nI q9)), (1, .int (nI (zwin se n))), (0, .ref ra)] → W p l e ({ frames := 1, cells := 0, slots := 0, locals := 21 } : Room) s m [.ref ra].toArray below meth c H locs 0 0 (MQ below (va_Qi (fun (r : Int32) (u : va_W) => r = zsumI sp (zlast se n) ∧ u = [(ra, .inr (1, [.ref hp, .ref ah, .ref am, .ref at_, .ref asp, .ref afa, .ref ado, .ref adt, .ref aor, .int (nI cr), .int (nI ho), .int (nI nx), .int (nI ba), .int (nI pl), .int (nI tk), .long rr])), (hp, .inr (0, [.int (nI n), .ref aw, .ref av, .ref az, .ref af])), (az, .inl (cZ, 16, .inl se)), (asp, .inl (cI, 16, .inl sp))]) (zAt (dC, dI) zcl [(cI, .int), (cJ, .long), (cZ, .boolean)] A) A) [.ref ra].toArray s 0 0 A) (F0 m 32 ls []) := by
      intro fuel
      induction fuel with
      | zero => intro k sm H locs ls hk hsm hf; exact absurd hf (Nat.not_lt_zero _)
      | succ fuel ih =>
        intro k sm H locs ls hk hsm hf hP hD hS hl
        refine lv_iload hx hb zd_Q_countedTicks_32 (lv_at hl 0 rfl) ?_
        refine lv_iload_n hx hb zd_Q_countedTicks_34 rfl (lv_at hl 2 rfl) ?_
        refine lv_icmp_gt (tgt := 64) hx hb zd_Q_countedTicks_35 (by decide) (fun c4_ => ?_) (fun c4_ => ?_)
        · have hk2 : k = q9 + 1 := by have : ¬ k ≤ q9 := fun h => nI_nlt h (by omega) c4_; omega
          refine lv_iload_n hx hb zd_Q_countedTicks_64 rfl (lv_at hl 1 rfl) ?_
          have hP := hP.sub (ws' := [(ra, .inr (1, [.ref hp, .ref ah, .ref am, .ref at_, .ref asp, .ref afa, .ref ado, .ref adt, .ref aor, .int (nI cr), .int (nI ho), .int (nI nx), .int (nI ba), .int (nI pl), .int (nI tk), .long rr])), (hp, .inr (0, [.int (nI n), .ref aw, .ref av, .ref az, .ref af])), (az, .inl (cZ, 16, .inl se)), (asp, .inl (cI, 16, .inl sp))]) [0, 2, 3, 1] rfl
          have hD := hD.sub (ws' := [(ra, .inr (1, [.ref hp, .ref ah, .ref am, .ref at_, .ref asp, .ref afa, .ref ado, .ref adt, .ref aor, .int (nI cr), .int (nI ho), .int (nI nx), .int (nI ba), .int (nI pl), .int (nI tk), .long rr])), (hp, .inr (0, [.int (nI n), .ref aw, .ref av, .ref az, .ref af])), (az, .inl (cZ, 16, .inl se)), (asp, .inl (cI, 16, .inl sp))]) [0, 2, 3, 1] (by decide) rfl
          exact z_iret hx hb hr hlocks hP hK hD hS zd_Q_countedTicks_65 (by decide) (by decide) ⟨by rw [hsm, hk2, hq2], rfl⟩
        · have hk2 : k ≤ q9 := Nat.le_of_not_lt (fun h => c4_ (nI_lt h (by omega)))
          refine lv_iload hx hb zd_Q_countedTicks_38 (lv_at hl 0 rfl) ?_
          refine lv_aload_n hx hb zd_Q_countedTicks_40 rfl (lv_at hl 4 rfl) ?_
          refine va_get (D := (dC, dI)) (ci := 1) (v := .ref asp) (C := zR_Q) (T := zF_Q) (N := 16) hx hb htz zi_Q hown hK hP 0 rfl rfl 4 (by decide) (htz _ zq_65) (fun _ h9 => h9) rfl zd_Q_countedTicks_41 ?_
          refine va_alen (v := nI 16) hx hb hK hP 1 0 rfl rfl rfl zd_Q_countedTicks_44 ?_
          refine lv_icmp_ge (tgt := 64) hx hb zd_Q_countedTicks_45 (by decide) (fun c5_ => absurd c5_ (nI_ge (by omega) (by decide))) (fun c5_ => ?_)
          refine lv_iload_n hx hb zd_Q_countedTicks_48 rfl (lv_at hl 1 rfl) ?_
          refine lv_aload_n hx hb zd_Q_countedTicks_49 rfl (lv_at hl 4 rfl) ?_
          refine va_get (D := (dC, dI)) (ci := 1) (v := .ref asp) (C := zR_Q) (T := zF_Q) (N := 16) hx hb htz zi_Q hown hK hP 0 rfl rfl 4 (by decide) (htz _ zq_65) (fun _ h9 => h9) rfl zd_Q_countedTicks_50 ?_
          refine lv_iload hx hb zd_Q_countedTicks_53 (lv_at hl 0 rfl) ?_
          refine z_iald hx hb hK hP 1 0 rfl rfl (j := k) (by omega) (by decide) zd_Q_countedTicks_55 ?_
          refine lv_iadd hx hb zd_Q_countedTicks_56 ?_
          refine z_topi (y := zsumI sp (k + 1)) (by rw [hsm]; rfl) ?_
          refine lv_istore_n (lv' := [(3, .int (zsumI sp (k + 1))), (4, .int (nI k)), (2, .int (nI q9)), (1, .int (nI (zwin se n))), (0, .ref ra)]) hx hb zd_Q_countedTicks_57 rfl hl (by decide) rfl (fun ls hl => ?_)
          refine lv_iinc (v := (nI (k + 1))) (lv' := [(4, .int (nI (k + 1))), (3, .int (zsumI sp (k + 1))), (2, .int (nI q9)), (1, .int (nI (zwin se n))), (0, .ref ra)]) hx hb zd_Q_countedTicks_58 hl (k := 1) rfl (nI_1 k) (by decide) rfl (fun ls hl => ?_)
          refine lv_goto (tgt := 32) hx hb zd_Q_countedTicks_61 (by decide) ?_
          exact ih (k + 1) (zsumI sp (k + 1)) _ _ _ (by omega) rfl (by omega) hP hD hS hl
    exact lp32 _ 0 (nI 0) _ _ _ (Nat.zero_le _) rfl (Nat.lt_succ_self _) hP hD hS hl
  · have hP : va_P (dC, dI) zcl [(ra, .inr (1, [.ref hp, .ref ah, .ref am, .ref at_, .ref asp, .ref afa, .ref ado, .ref adt, .ref aor, .int (nI cr), .int (nI ho), .int (nI nx), .int (nI ba), .int (nI pl), .int (nI tk), .long rr])), (asp, .inl (cI, 16, .inl sp)), (hp, .inr (0, [.int (nI n), .ref aw, .ref av, .ref az, .ref af])), (az, .inl (cZ, 16, .inl se))] H := hP
    have hD : va_D A [(ra, .inr (1, [.ref hp, .ref ah, .ref am, .ref at_, .ref asp, .ref afa, .ref ado, .ref adt, .ref aor, .int (nI cr), .int (nI ho), .int (nI nx), .int (nI ba), .int (nI pl), .int (nI tk), .long rr])), (asp, .inl (cI, 16, .inl sp)), (hp, .inr (0, [.int (nI n), .ref aw, .ref av, .ref az, .ref af])), (az, .inl (cZ, 16, .inl se))] := hD
    have hw9 := hw2_
    refine lv_istore_n (lv' := [(1, .int (-1)), (0, .ref ra)]) hx hb zd_Q_countedTicks_7 rfl hl (by decide) rfl (fun ls hl => ?_)
    refine lv_iload_n hx hb zd_Q_countedTicks_8 rfl (lv_at hl 0 rfl) ?_
    refine lv_iconst (v := (-1)) hx hb zd_Q_countedTicks_9 (by decide) ?_
    refine lv_icmp_ne (tgt := 25) hx hb zd_Q_countedTicks_10 (by decide) (fun c6_ => absurd rfl c6_) (fun c6_ => ?_)
    refine lv_aload_n hx hb zd_Q_countedTicks_13 rfl (lv_at hl 1 rfl) ?_
    refine va_get (D := (dC, dI)) (ci := 1) (v := .ref hp) (C := zR_Q) (T := zF_Q) (N := 16) hx hb htz zi_Q hown hK hP 0 rfl rfl 0 (by decide) (htz _ zq_61) (fun _ h9 => h9) rfl zd_Q_countedTicks_14 ?_
    refine z_Vi (As := []) (rest := []) (wc := [(hp, .inr (0, [.int (nI n), .ref aw, .ref av, .ref az, .ref af]))]) (wr := [(ra, .inr (1, [.ref hp, .ref ah, .ref am, .ref at_, .ref asp, .ref afa, .ref ado, .ref adt, .ref aor, .int (nI cr), .int (nI ho), .int (nI nx), .int (nI ba), .int (nI pl), .int (nI tk), .long rr])), (asp, .inl (cI, 16, .inl sp)), (az, .inl (cZ, 16, .inl se))]) ⟨hx, hb, hml, hown, htz⟩ hK hP hD hS hA (k_Plan_size l dC dI cI cJ cZ hp aw av az af n H.size) (zcwV 0 htz zq_127 zq_269 zq_125 zq_126 zq_2 (by decide +kernel) ⟨Nat.le_of_ble_eq_true rfl, Nat.le_of_ble_eq_true rfl⟩) 2 0 rfl rfl [2] [0, 1, 3] rfl rfl rfl (by decide) rfl hl.1 rfl (Nat.le_of_ble_eq_true rfl) zd_Q_countedTicks_17 ⟨Nat.le_of_ble_eq_true rfl, Nat.le_of_ble_eq_true rfl⟩ (fun r u H locs hw hP hD hS => ?_)
    obtain ⟨rfl, rfl⟩ := hw
    have hP : va_P (dC, dI) zcl [(ra, .inr (1, [.ref hp, .ref ah, .ref am, .ref at_, .ref asp, .ref afa, .ref ado, .ref adt, .ref aor, .int (nI cr), .int (nI ho), .int (nI nx), .int (nI ba), .int (nI pl), .int (nI tk), .long rr])), (asp, .inl (cI, 16, .inl sp)), (az, .inl (cZ, 16, .inl se)), (hp, .inr (0, [.int (nI n), .ref aw, .ref av, .ref az, .ref af]))] H := hP
    have hD : va_D A [(ra, .inr (1, [.ref hp, .ref ah, .ref am, .ref at_, .ref asp, .ref afa, .ref ado, .ref adt, .ref aor, .int (nI cr), .int (nI ho), .int (nI nx), .int (nI ba), .int (nI pl), .int (nI tk), .long rr])), (asp, .inl (cI, 16, .inl sp)), (az, .inl (cZ, 16, .inl se)), (hp, .inr (0, [.int (nI n), .ref aw, .ref av, .ref az, .ref af]))] := hD
    refine lv_iconst (v := (nI 1)) hx hb zd_Q_countedTicks_20 (by decide) ?_
    refine lv_isub hx hb zd_Q_countedTicks_21 ?_
    refine z_topi (y := nI (n - 1)) (pk_sub hn1) ?_
    refine lv_goto (tgt := 26) hx hb zd_Q_countedTicks_22 (by decide) ?_
    obtain ⟨q9, hq9⟩ : ∃ q9, q9 = (n - 1) := ⟨_, rfl⟩
    refine z_topi (y := nI q9) (by rw [hq9]) ?_
    have hq1 : q9 < 16 := by omega
    have hq2 : q9 + 1 = zlast se n := by simp only [zlast]; split <;> omega
    refine lv_istore_n (lv' := [(2, .int (nI q9)), (1, .int (-1)), (0, .ref ra)]) hx hb zd_Q_countedTicks_26 rfl hl (by decide) rfl (fun ls hl => ?_)
    refine lv_iconst (v := (nI 0)) hx hb zd_Q_countedTicks_27 (by decide) ?_
    refine lv_istore_n (lv' := [(3, .int (nI 0)), (2, .int (nI q9)), (1, .int (-1)), (0, .ref ra)]) hx hb zd_Q_countedTicks_28 rfl hl (by decide) rfl (fun ls hl => ?_)
    refine lv_iconst (v := (nI 0)) hx hb zd_Q_countedTicks_29 (by decide) ?_
    refine lv_istore (lv' := [(4, .int (nI 0)), (3, .int (nI 0)), (2, .int (nI q9)), (1, .int (-1)), (0, .ref ra)]) hx hb zd_Q_countedTicks_30 hl (by decide) rfl (fun ls hl => ?_)
    have lp32 : ∀ (fuel : Nat) (k : Nat) (sm : Int32) (H : Heap) (locs : List Loc) (ls : Array Slot), (k ≤ q9 + 1) → (sm = zsumI sp k) → q9 + 1 - k < fuel → va_P (dC, dI) zcl [(ra, .inr (1, [.ref hp, .ref ah, .ref am, .ref at_, .ref asp, .ref afa, .ref ado, .ref adt, .ref aor, .int (nI cr), .int (nI ho), .int (nI nx), .int (nI ba), .int (nI pl), .int (nI tk), .long rr])), (asp, .inl (cI, 16, .inl sp)), (az, .inl (cZ, 16, .inl se)), (hp, .inr (0, [.int (nI n), .ref aw, .ref av, .ref az, .ref af]))] H → va_D A [(ra, .inr (1, [.ref hp, .ref ah, .ref am, .ref at_, .ref asp, .ref afa, .ref ado, .ref adt, .ref aor, .int (nI cr), .int (nI ho), .int (nI nx), .int (nI ba), .int (nI pl), .int (nI tk), .long rr])), (asp, .inl (cI, 16, .inl sp)), (az, .inl (cZ, 16, .inl se)), (hp, .inr (0, [.int (nI n), .ref aw, .ref av, .ref az, .ref af]))] → va_S A s.heap H locs → lv_has ls 5 [(4, .int (nI k)), (3, .int sm), (2, .int (nI q9)), (1, .int (-1)), (0, .ref ra)] → W p l e ({ frames := 1, cells := 0, slots := 0, locals := 21 } : Room) s m [.ref ra].toArray below meth c H locs 0 0 (MQ below (va_Qi (fun (r : Int32) (u : va_W) => r = zsumI sp (zlast se n) ∧ u = [(ra, .inr (1, [.ref hp, .ref ah, .ref am, .ref at_, .ref asp, .ref afa, .ref ado, .ref adt, .ref aor, .int (nI cr), .int (nI ho), .int (nI nx), .int (nI ba), .int (nI pl), .int (nI tk), .long rr])), (hp, .inr (0, [.int (nI n), .ref aw, .ref av, .ref az, .ref af])), (az, .inl (cZ, 16, .inl se)), (asp, .inl (cI, 16, .inl sp))]) (zAt (dC, dI) zcl [(cI, .int), (cJ, .long), (cZ, .boolean)] A) A) [.ref ra].toArray s 0 0 A) (F0 m 32 ls []) := by
      intro fuel
      induction fuel with
      | zero => intro k sm H locs ls hk hsm hf; exact absurd hf (Nat.not_lt_zero _)
      | succ fuel ih =>
        intro k sm H locs ls hk hsm hf hP hD hS hl
        refine lv_iload hx hb zd_Q_countedTicks_32 (lv_at hl 0 rfl) ?_
        refine lv_iload_n hx hb zd_Q_countedTicks_34 rfl (lv_at hl 2 rfl) ?_
        refine lv_icmp_gt (tgt := 64) hx hb zd_Q_countedTicks_35 (by decide) (fun c7_ => ?_) (fun c7_ => ?_)
        · have hk2 : k = q9 + 1 := by have : ¬ k ≤ q9 := fun h => nI_nlt h (by omega) c7_; omega
          refine lv_iload_n hx hb zd_Q_countedTicks_64 rfl (lv_at hl 1 rfl) ?_
          have hP := hP.sub (ws' := [(ra, .inr (1, [.ref hp, .ref ah, .ref am, .ref at_, .ref asp, .ref afa, .ref ado, .ref adt, .ref aor, .int (nI cr), .int (nI ho), .int (nI nx), .int (nI ba), .int (nI pl), .int (nI tk), .long rr])), (hp, .inr (0, [.int (nI n), .ref aw, .ref av, .ref az, .ref af])), (az, .inl (cZ, 16, .inl se)), (asp, .inl (cI, 16, .inl sp))]) [0, 3, 2, 1] rfl
          have hD := hD.sub (ws' := [(ra, .inr (1, [.ref hp, .ref ah, .ref am, .ref at_, .ref asp, .ref afa, .ref ado, .ref adt, .ref aor, .int (nI cr), .int (nI ho), .int (nI nx), .int (nI ba), .int (nI pl), .int (nI tk), .long rr])), (hp, .inr (0, [.int (nI n), .ref aw, .ref av, .ref az, .ref af])), (az, .inl (cZ, 16, .inl se)), (asp, .inl (cI, 16, .inl sp))]) [0, 3, 2, 1] (by decide) rfl
          exact z_iret hx hb hr hlocks hP hK hD hS zd_Q_countedTicks_65 (by decide) (by decide) ⟨by rw [hsm, hk2, hq2], rfl⟩
        · have hk2 : k ≤ q9 := Nat.le_of_not_lt (fun h => c7_ (nI_lt h (by omega)))
          refine lv_iload hx hb zd_Q_countedTicks_38 (lv_at hl 0 rfl) ?_
          refine lv_aload_n hx hb zd_Q_countedTicks_40 rfl (lv_at hl 4 rfl) ?_
          refine va_get (D := (dC, dI)) (ci := 1) (v := .ref asp) (C := zR_Q) (T := zF_Q) (N := 16) hx hb htz zi_Q hown hK hP 0 rfl rfl 4 (by decide) (htz _ zq_65) (fun _ h9 => h9) rfl zd_Q_countedTicks_41 ?_
          refine va_alen (v := nI 16) hx hb hK hP 1 0 rfl rfl rfl zd_Q_countedTicks_44 ?_
          refine lv_icmp_ge (tgt := 64) hx hb zd_Q_countedTicks_45 (by decide) (fun c8_ => absurd c8_ (nI_ge (by omega) (by decide))) (fun c8_ => ?_)
          refine lv_iload_n hx hb zd_Q_countedTicks_48 rfl (lv_at hl 1 rfl) ?_
          refine lv_aload_n hx hb zd_Q_countedTicks_49 rfl (lv_at hl 4 rfl) ?_
          refine va_get (D := (dC, dI)) (ci := 1) (v := .ref asp) (C := zR_Q) (T := zF_Q) (N := 16) hx hb htz zi_Q hown hK hP 0 rfl rfl 4 (by decide) (htz _ zq_65) (fun _ h9 => h9) rfl zd_Q_countedTicks_50 ?_
          refine lv_iload hx hb zd_Q_countedTicks_53 (lv_at hl 0 rfl) ?_
          refine z_iald hx hb hK hP 1 0 rfl rfl (j := k) (by omega) (by decide) zd_Q_countedTicks_55 ?_
          refine lv_iadd hx hb zd_Q_countedTicks_56 ?_
          refine z_topi (y := zsumI sp (k + 1)) (by rw [hsm]; rfl) ?_
          refine lv_istore_n (lv' := [(3, .int (zsumI sp (k + 1))), (4, .int (nI k)), (2, .int (nI q9)), (1, .int (-1)), (0, .ref ra)]) hx hb zd_Q_countedTicks_57 rfl hl (by decide) rfl (fun ls hl => ?_)
          refine lv_iinc (v := (nI (k + 1))) (lv' := [(4, .int (nI (k + 1))), (3, .int (zsumI sp (k + 1))), (2, .int (nI q9)), (1, .int (-1)), (0, .ref ra)]) hx hb zd_Q_countedTicks_58 hl (k := 1) rfl (nI_1 k) (by decide) rfl (fun ls hl => ?_)
          refine lv_goto (tgt := 32) hx hb zd_Q_countedTicks_61 (by decide) ?_
          exact ih (k + 1) (zsumI sp (k + 1)) _ _ _ (by omega) rfl (by omega) hP hD hS hl
    exact lp32 _ 0 (nI 0) _ _ _ (Nat.zero_le _) rfl (Nat.lt_succ_self _) hP hD hS hl
set_option maxHeartbeats 4000000 in
set_option maxRecDepth 100000 in
/--  -/
theorem k_Race_movesOf_k (l : Launch) (dC : Nat → ClassId) (dI : Nat → Nat → Nat) (cI cJ cZ : ClassId) (ra : Nat) (hp : Nat) (ah : Nat) (am : Nat) (at_ : Nat) (asp : Nat) (afa : Nat) (ado : Nat) (adt : Nat) (aor : Nat) (cr : Nat) (ho : Nat) (nx : Nat) (ba : Nat) (pl : Nat) (tk : Nat) (rr : Int64) (mv : Nat → Int32) (j : Nat) (hc : cr ≤ 16) (hj : j < cr) (sz : Nat) : zMi l zy_Q_movesOf zw_Q_movesOf ({ frames := 1, cells := 0, slots := 0, locals := 21 }) [.ref ra, .int (nI j)] (dC, dI) zcl [(cI, .int), (cJ, .long), (cZ, .boolean)] [(ra, .inr (1, [.ref hp, .ref ah, .ref am, .ref at_, .ref asp, .ref afa, .ref ado, .ref adt, .ref aor, .int (nI cr), .int (nI ho), .int (nI nx), .int (nI ba), .int (nI pl), .int (nI tk), .long rr])), (am, .inl (cI, 16, .inl mv))] sz (fun (r : Int32) (u : va_W) => r = mv j ∧ u = [(ra, .inr (1, [.ref hp, .ref ah, .ref am, .ref at_, .ref asp, .ref afa, .ref ado, .ref adt, .ref aor, .int (nI cr), .int (nI ho), .int (nI nx), .int (nI ba), .int (nI pl), .int (nI tk), .long rr])), (am, .inl (cI, 16, .inl mv))]) := by
  refine z_ofi (cc := zc_Q_movesOf) (maxL := 2) (ret := (some .int)) (by decide) rfl (Nat.le_of_ble_eq_true rfl) ?_
  intro p e s m below meth c A ls hx hb hr hml hown htz hlocks hin hA hP hK hD hS hl
  have hown : s.vm.findClass zR_Q = some m.cls := hown
  have hl : lv_has ls 2 [(0, .ref ra), (1, .int (nI j))] := hl
  refine lv_aload_n hx hb zd_Q_movesOf_0 rfl (lv_at hl 0 rfl) ?_
  refine lv_iload_n hx hb zd_Q_movesOf_1 rfl (lv_at hl 1 rfl) ?_
  refine z_Vi (As := [.int (nI j)]) (rest := []) (wc := [(ra, .inr (1, [.ref hp, .ref ah, .ref am, .ref at_, .ref asp, .ref afa, .ref ado, .ref adt, .ref aor, .int (nI cr), .int (nI ho), .int (nI nx), .int (nI ba), .int (nI pl), .int (nI tk), .long rr]))]) (wr := [(am, .inl (cI, 16, .inl mv))]) ⟨hx, hb, hml, hown, htz⟩ hK hP hD hS hA (k_Race_hasWorker_k l dC dI cI cJ cZ ra hp ah am at_ asp afa ado adt aor cr ho nx ba pl tk rr j (by first | assumption | omega) (by first | assumption | omega) s.heap.size) (zcwV 1 htz zq_295 zq_292 zq_293 zq_294 zq_5 (by decide +kernel) ⟨Nat.le_of_ble_eq_true rfl, Nat.le_of_ble_eq_true rfl⟩) 0 1 rfl rfl [0] [1] rfl rfl rfl (by decide) rfl hl.1 rfl (Nat.le_of_ble_eq_true rfl) zd_Q_movesOf_2 ⟨Nat.le_of_ble_eq_true rfl, Nat.le_of_ble_eq_true rfl⟩ (fun r u H locs hw hP hD hS => ?_)
  obtain ⟨rfl, rfl⟩ := hw
  have hP : va_P (dC, dI) zcl [(am, .inl (cI, 16, .inl mv)), (ra, .inr (1, [.ref hp, .ref ah, .ref am, .ref at_, .ref asp, .ref afa, .ref ado, .ref adt, .ref aor, .int (nI cr), .int (nI ho), .int (nI nx), .int (nI ba), .int (nI pl), .int (nI tk), .long rr]))] H := hP
  have hD : va_D A [(am, .inl (cI, 16, .inl mv)), (ra, .inr (1, [.ref hp, .ref ah, .ref am, .ref at_, .ref asp, .ref afa, .ref ado, .ref adt, .ref aor, .int (nI cr), .int (nI ho), .int (nI nx), .int (nI ba), .int (nI pl), .int (nI tk), .long rr]))] := hD
  refine lv_if_eq (tgt := 17) hx hb zd_Q_movesOf_5 (by decide) (fun c1_ => absurd c1_ (by decide)) (fun _ => ?_)
  refine lv_aload_n hx hb zd_Q_movesOf_8 rfl (lv_at hl 0 rfl) ?_
  refine va_get (D := (dC, dI)) (ci := 1) (v := .ref am) (C := zR_Q) (T := zF_Q) (N := 16) hx hb htz zi_Q hown hK hP 1 rfl rfl 2 (by decide) (htz _ zq_63) (fun _ h9 => h9) rfl zd_Q_movesOf_9 ?_
  refine lv_iload_n hx hb zd_Q_movesOf_12 rfl (lv_at hl 1 rfl) ?_
  refine z_iald hx hb hK hP 0 0 rfl rfl (j := j) (by omega) (by decide) zd_Q_movesOf_13 ?_
  refine lv_goto (tgt := 18) hx hb zd_Q_movesOf_14 (by decide) ?_
  have hP := hP.sub (ws' := [(ra, .inr (1, [.ref hp, .ref ah, .ref am, .ref at_, .ref asp, .ref afa, .ref ado, .ref adt, .ref aor, .int (nI cr), .int (nI ho), .int (nI nx), .int (nI ba), .int (nI pl), .int (nI tk), .long rr])), (am, .inl (cI, 16, .inl mv))]) [1, 0] rfl
  have hD := hD.sub (ws' := [(ra, .inr (1, [.ref hp, .ref ah, .ref am, .ref at_, .ref asp, .ref afa, .ref ado, .ref adt, .ref aor, .int (nI cr), .int (nI ho), .int (nI nx), .int (nI ba), .int (nI pl), .int (nI tk), .long rr])), (am, .inl (cI, 16, .inl mv))]) [1, 0] (by decide) rfl
  exact z_iret hx hb hr hlocks hP hK hD hS zd_Q_movesOf_18 (by decide) (by decide) ⟨rfl, rfl⟩
set_option maxHeartbeats 4000000 in
set_option maxRecDepth 100000 in
/--  -/
theorem k_Race_shareInPlace_k (l : Launch) (dC : Nat → ClassId) (dI : Nat → Nat → Nat) (cI cJ cZ : ClassId) (ra : Nat) (hp : Nat) (ah : Nat) (am : Nat) (at_ : Nat) (asp : Nat) (afa : Nat) (ado : Nat) (adt : Nat) (aor : Nat) (cr : Nat) (ho : Nat) (nx : Nat) (ba : Nat) (pl : Nat) (tk : Nat) (rr : Int64) (od : Nat → Int32) (j : Nat) (hpl : pl ≤ 16) (hj : j < pl) (sz : Nat) : zMi l zy_Q_shareInPlace zw_Q_shareInPlace ({ frames := 1, cells := 0, slots := 0, locals := 21 }) [.ref ra, .int (nI j)] (dC, dI) zcl [(cI, .int), (cJ, .long), (cZ, .boolean)] [(ra, .inr (1, [.ref hp, .ref ah, .ref am, .ref at_, .ref asp, .ref afa, .ref ado, .ref adt, .ref aor, .int (nI cr), .int (nI ho), .int (nI nx), .int (nI ba), .int (nI pl), .int (nI tk), .long rr])), (aor, .inl (cI, 16, .inl od))] sz (fun (r : Int32) (u : va_W) => r = od j ∧ u = [(ra, .inr (1, [.ref hp, .ref ah, .ref am, .ref at_, .ref asp, .ref afa, .ref ado, .ref adt, .ref aor, .int (nI cr), .int (nI ho), .int (nI nx), .int (nI ba), .int (nI pl), .int (nI tk), .long rr])), (aor, .inl (cI, 16, .inl od))]) := by
  refine z_ofi (cc := zc_Q_shareInPlace) (maxL := 2) (ret := (some .int)) (by decide) rfl (Nat.le_of_ble_eq_true rfl) ?_
  intro p e s m below meth c A ls hx hb hr hml hown htz hlocks hin hA hP hK hD hS hl
  have hown : s.vm.findClass zR_Q = some m.cls := hown
  have hl : lv_has ls 2 [(0, .ref ra), (1, .int (nI j))] := hl
  refine lv_aload_n hx hb zd_Q_shareInPlace_0 rfl (lv_at hl 0 rfl) ?_
  refine lv_iload_n hx hb zd_Q_shareInPlace_1 rfl (lv_at hl 1 rfl) ?_
  refine z_Vi (As := [.int (nI j)]) (rest := []) (wc := [(ra, .inr (1, [.ref hp, .ref ah, .ref am, .ref at_, .ref asp, .ref afa, .ref ado, .ref adt, .ref aor, .int (nI cr), .int (nI ho), .int (nI nx), .int (nI ba), .int (nI pl), .int (nI tk), .long rr]))]) (wr := [(aor, .inl (cI, 16, .inl od))]) ⟨hx, hb, hml, hown, htz⟩ hK hP hD hS hA (k_Race_hasPlace_k l dC dI cI cJ cZ ra hp ah am at_ asp afa ado adt aor cr ho nx ba pl tk rr j (by first | assumption | omega) (by first | assumption | omega) s.heap.size) (zcwV 1 htz zq_409 zq_415 zq_407 zq_408 zq_5 (by decide +kernel) ⟨Nat.le_of_ble_eq_true rfl, Nat.le_of_ble_eq_true rfl⟩) 0 1 rfl rfl [0] [1] rfl rfl rfl (by decide) rfl hl.1 rfl (Nat.le_of_ble_eq_true rfl) zd_Q_shareInPlace_2 ⟨Nat.le_of_ble_eq_true rfl, Nat.le_of_ble_eq_true rfl⟩ (fun r u H locs hw hP hD hS => ?_)
  obtain ⟨rfl, rfl⟩ := hw
  have hP : va_P (dC, dI) zcl [(aor, .inl (cI, 16, .inl od)), (ra, .inr (1, [.ref hp, .ref ah, .ref am, .ref at_, .ref asp, .ref afa, .ref ado, .ref adt, .ref aor, .int (nI cr), .int (nI ho), .int (nI nx), .int (nI ba), .int (nI pl), .int (nI tk), .long rr]))] H := hP
  have hD : va_D A [(aor, .inl (cI, 16, .inl od)), (ra, .inr (1, [.ref hp, .ref ah, .ref am, .ref at_, .ref asp, .ref afa, .ref ado, .ref adt, .ref aor, .int (nI cr), .int (nI ho), .int (nI nx), .int (nI ba), .int (nI pl), .int (nI tk), .long rr]))] := hD
  refine lv_if_eq (tgt := 17) hx hb zd_Q_shareInPlace_5 (by decide) (fun c1_ => absurd c1_ (by decide)) (fun _ => ?_)
  refine lv_aload_n hx hb zd_Q_shareInPlace_8 rfl (lv_at hl 0 rfl) ?_
  refine va_get (D := (dC, dI)) (ci := 1) (v := .ref aor) (C := zR_Q) (T := zF_Q) (N := 16) hx hb htz zi_Q hown hK hP 1 rfl rfl 8 (by decide) (htz _ zq_69) (fun _ h9 => h9) rfl zd_Q_shareInPlace_9 ?_
  refine lv_iload_n hx hb zd_Q_shareInPlace_12 rfl (lv_at hl 1 rfl) ?_
  refine z_iald hx hb hK hP 0 0 rfl rfl (j := j) (by omega) (by decide) zd_Q_shareInPlace_13 ?_
  refine lv_goto (tgt := 18) hx hb zd_Q_shareInPlace_14 (by decide) ?_
  have hP := hP.sub (ws' := [(ra, .inr (1, [.ref hp, .ref ah, .ref am, .ref at_, .ref asp, .ref afa, .ref ado, .ref adt, .ref aor, .int (nI cr), .int (nI ho), .int (nI nx), .int (nI ba), .int (nI pl), .int (nI tk), .long rr])), (aor, .inl (cI, 16, .inl od))]) [1, 0] rfl
  have hD := hD.sub (ws' := [(ra, .inr (1, [.ref hp, .ref ah, .ref am, .ref at_, .ref asp, .ref afa, .ref ado, .ref adt, .ref aor, .int (nI cr), .int (nI ho), .int (nI nx), .int (nI ba), .int (nI pl), .int (nI tk), .long rr])), (aor, .inl (cI, 16, .inl od))]) [1, 0] (by decide) rfl
  exact z_iret hx hb hr hlocks hP hK hD hS zd_Q_shareInPlace_18 (by decide) (by decide) ⟨rfl, rfl⟩
set_option maxHeartbeats 4000000 in
set_option maxRecDepth 100000 in
/--  -/
theorem k_Race_doerOf_k (l : Launch) (dC : Nat → ClassId) (dI : Nat → Nat → Nat) (cI cJ cZ : ClassId) (ra : Nat) (hp : Nat) (ah : Nat) (am : Nat) (at_ : Nat) (asp : Nat) (afa : Nat) (ado : Nat) (adt : Nat) (aor : Nat) (cr : Nat) (ho : Nat) (nx : Nat) (ba : Nat) (pl : Nat) (tk : Nat) (rr : Int64) (aw : Nat) (av : Nat) (az : Nat) (af : Nat) (n : Nat) (dr : Nat → Int32) (j : Nat) (hn : n ≤ 16) (hj : j < n) (sz : Nat) : zMi l zy_Q_doerOf zw_Q_doerOf ({ frames := 1, cells := 0, slots := 0, locals := 21 }) [.ref ra, .int (nI j)] (dC, dI) zcl [(cI, .int), (cJ, .long), (cZ, .boolean)] [(ra, .inr (1, [.ref hp, .ref ah, .ref am, .ref at_, .ref asp, .ref afa, .ref ado, .ref adt, .ref aor, .int (nI cr), .int (nI ho), .int (nI nx), .int (nI ba), .int (nI pl), .int (nI tk), .long rr])), (hp, .inr (0, [.int (nI n), .ref aw, .ref av, .ref az, .ref af])), (ado, .inl (cI, 16, .inl dr))] sz (fun (r : Int32) (u : va_W) => r = dr j ∧ u = [(ra, .inr (1, [.ref hp, .ref ah, .ref am, .ref at_, .ref asp, .ref afa, .ref ado, .ref adt, .ref aor, .int (nI cr), .int (nI ho), .int (nI nx), .int (nI ba), .int (nI pl), .int (nI tk), .long rr])), (hp, .inr (0, [.int (nI n), .ref aw, .ref av, .ref az, .ref af])), (ado, .inl (cI, 16, .inl dr))]) := by
  refine z_ofi (cc := zc_Q_doerOf) (maxL := 2) (ret := (some .int)) (by decide) rfl (Nat.le_of_ble_eq_true rfl) ?_
  intro p e s m below meth c A ls hx hb hr hml hown htz hlocks hin hA hP hK hD hS hl
  have hown : s.vm.findClass zR_Q = some m.cls := hown
  have hl : lv_has ls 2 [(0, .ref ra), (1, .int (nI j))] := hl
  refine lv_aload_n hx hb zd_Q_doerOf_0 rfl (lv_at hl 0 rfl) ?_
  refine va_get (D := (dC, dI)) (ci := 1) (v := .ref hp) (C := zR_Q) (T := zF_Q) (N := 16) hx hb htz zi_Q hown hK hP 0 rfl rfl 0 (by decide) (htz _ zq_61) (fun _ h9 => h9) rfl zd_Q_doerOf_1 ?_
  refine lv_iload_n hx hb zd_Q_doerOf_4 rfl (lv_at hl 1 rfl) ?_
  refine z_Vi (As := [.int (nI j)]) (rest := []) (wc := [(hp, .inr (0, [.int (nI n), .ref aw, .ref av, .ref az, .ref af]))]) (wr := [(ra, .inr (1, [.ref hp, .ref ah, .ref am, .ref at_, .ref asp, .ref afa, .ref ado, .ref adt, .ref aor, .int (nI cr), .int (nI ho), .int (nI nx), .int (nI ba), .int (nI pl), .int (nI tk), .long rr])), (ado, .inl (cI, 16, .inl dr))]) ⟨hx, hb, hml, hown, htz⟩ hK hP hD hS hA (k_Plan_has_k l dC dI cI cJ cZ hp aw av az af n j (by first | assumption | omega) (by first | assumption | omega) s.heap.size) (zcwV 1 htz zq_147 zq_304 zq_145 zq_146 zq_2 (by decide +kernel) ⟨Nat.le_of_ble_eq_true rfl, Nat.le_of_ble_eq_true rfl⟩) 1 0 rfl rfl [1] [0, 2] rfl rfl rfl (by decide) rfl hl.1 rfl (Nat.le_of_ble_eq_true rfl) zd_Q_doerOf_5 ⟨Nat.le_of_ble_eq_true rfl, Nat.le_of_ble_eq_true rfl⟩ (fun r u H locs hw hP hD hS => ?_)
  obtain ⟨rfl, rfl⟩ := hw
  have hP : va_P (dC, dI) zcl [(ra, .inr (1, [.ref hp, .ref ah, .ref am, .ref at_, .ref asp, .ref afa, .ref ado, .ref adt, .ref aor, .int (nI cr), .int (nI ho), .int (nI nx), .int (nI ba), .int (nI pl), .int (nI tk), .long rr])), (ado, .inl (cI, 16, .inl dr)), (hp, .inr (0, [.int (nI n), .ref aw, .ref av, .ref az, .ref af]))] H := hP
  have hD : va_D A [(ra, .inr (1, [.ref hp, .ref ah, .ref am, .ref at_, .ref asp, .ref afa, .ref ado, .ref adt, .ref aor, .int (nI cr), .int (nI ho), .int (nI nx), .int (nI ba), .int (nI pl), .int (nI tk), .long rr])), (ado, .inl (cI, 16, .inl dr)), (hp, .inr (0, [.int (nI n), .ref aw, .ref av, .ref az, .ref af]))] := hD
  refine lv_if_eq (tgt := 20) hx hb zd_Q_doerOf_8 (by decide) (fun c1_ => absurd c1_ (by decide)) (fun _ => ?_)
  refine lv_aload_n hx hb zd_Q_doerOf_11 rfl (lv_at hl 0 rfl) ?_
  refine va_get (D := (dC, dI)) (ci := 1) (v := .ref ado) (C := zR_Q) (T := zF_Q) (N := 16) hx hb htz zi_Q hown hK hP 0 rfl rfl 6 (by decide) (htz _ zq_67) (fun _ h9 => h9) rfl zd_Q_doerOf_12 ?_
  refine lv_iload_n hx hb zd_Q_doerOf_15 rfl (lv_at hl 1 rfl) ?_
  refine z_iald hx hb hK hP 1 0 rfl rfl (j := j) (by omega) (by decide) zd_Q_doerOf_16 ?_
  refine lv_goto (tgt := 21) hx hb zd_Q_doerOf_17 (by decide) ?_
  have hP := hP.sub (ws' := [(ra, .inr (1, [.ref hp, .ref ah, .ref am, .ref at_, .ref asp, .ref afa, .ref ado, .ref adt, .ref aor, .int (nI cr), .int (nI ho), .int (nI nx), .int (nI ba), .int (nI pl), .int (nI tk), .long rr])), (hp, .inr (0, [.int (nI n), .ref aw, .ref av, .ref az, .ref af])), (ado, .inl (cI, 16, .inl dr))]) [0, 2, 1] rfl
  have hD := hD.sub (ws' := [(ra, .inr (1, [.ref hp, .ref ah, .ref am, .ref at_, .ref asp, .ref afa, .ref ado, .ref adt, .ref aor, .int (nI cr), .int (nI ho), .int (nI nx), .int (nI ba), .int (nI pl), .int (nI tk), .long rr])), (hp, .inr (0, [.int (nI n), .ref aw, .ref av, .ref az, .ref af])), (ado, .inl (cI, 16, .inl dr))]) [0, 2, 1] (by decide) rfl
  exact z_iret hx hb hr hlocks hP hK hD hS zd_Q_doerOf_21 (by decide) (by decide) ⟨rfl, rfl⟩
set_option maxHeartbeats 4000000 in
set_option maxRecDepth 100000 in
/--  -/
theorem k_Race_failuresOf_k (l : Launch) (dC : Nat → ClassId) (dI : Nat → Nat → Nat) (cI cJ cZ : ClassId) (ra : Nat) (hp : Nat) (ah : Nat) (am : Nat) (at_ : Nat) (asp : Nat) (afa : Nat) (ado : Nat) (adt : Nat) (aor : Nat) (cr : Nat) (ho : Nat) (nx : Nat) (ba : Nat) (pl : Nat) (tk : Nat) (rr : Int64) (aw : Nat) (av : Nat) (az : Nat) (af : Nat) (n : Nat) (fa : Nat → Int32) (j : Nat) (hn : n ≤ 16) (hj : j < n) (sz : Nat) : zMi l zy_Q_failuresOf zw_Q_failuresOf ({ frames := 1, cells := 0, slots := 0, locals := 21 }) [.ref ra, .int (nI j)] (dC, dI) zcl [(cI, .int), (cJ, .long), (cZ, .boolean)] [(ra, .inr (1, [.ref hp, .ref ah, .ref am, .ref at_, .ref asp, .ref afa, .ref ado, .ref adt, .ref aor, .int (nI cr), .int (nI ho), .int (nI nx), .int (nI ba), .int (nI pl), .int (nI tk), .long rr])), (hp, .inr (0, [.int (nI n), .ref aw, .ref av, .ref az, .ref af])), (afa, .inl (cI, 16, .inl fa))] sz (fun (r : Int32) (u : va_W) => r = fa j ∧ u = [(ra, .inr (1, [.ref hp, .ref ah, .ref am, .ref at_, .ref asp, .ref afa, .ref ado, .ref adt, .ref aor, .int (nI cr), .int (nI ho), .int (nI nx), .int (nI ba), .int (nI pl), .int (nI tk), .long rr])), (hp, .inr (0, [.int (nI n), .ref aw, .ref av, .ref az, .ref af])), (afa, .inl (cI, 16, .inl fa))]) := by
  refine z_ofi (cc := zc_Q_failuresOf) (maxL := 2) (ret := (some .int)) (by decide) rfl (Nat.le_of_ble_eq_true rfl) ?_
  intro p e s m below meth c A ls hx hb hr hml hown htz hlocks hin hA hP hK hD hS hl
  have hown : s.vm.findClass zR_Q = some m.cls := hown
  have hl : lv_has ls 2 [(0, .ref ra), (1, .int (nI j))] := hl
  refine lv_aload_n hx hb zd_Q_failuresOf_0 rfl (lv_at hl 0 rfl) ?_
  refine va_get (D := (dC, dI)) (ci := 1) (v := .ref hp) (C := zR_Q) (T := zF_Q) (N := 16) hx hb htz zi_Q hown hK hP 0 rfl rfl 0 (by decide) (htz _ zq_61) (fun _ h9 => h9) rfl zd_Q_failuresOf_1 ?_
  refine lv_iload_n hx hb zd_Q_failuresOf_4 rfl (lv_at hl 1 rfl) ?_
  refine z_Vi (As := [.int (nI j)]) (rest := []) (wc := [(hp, .inr (0, [.int (nI n), .ref aw, .ref av, .ref az, .ref af]))]) (wr := [(ra, .inr (1, [.ref hp, .ref ah, .ref am, .ref at_, .ref asp, .ref afa, .ref ado, .ref adt, .ref aor, .int (nI cr), .int (nI ho), .int (nI nx), .int (nI ba), .int (nI pl), .int (nI tk), .long rr])), (afa, .inl (cI, 16, .inl fa))]) ⟨hx, hb, hml, hown, htz⟩ hK hP hD hS hA (k_Plan_has_k l dC dI cI cJ cZ hp aw av az af n j (by first | assumption | omega) (by first | assumption | omega) s.heap.size) (zcwV 1 htz zq_147 zq_304 zq_145 zq_146 zq_2 (by decide +kernel) ⟨Nat.le_of_ble_eq_true rfl, Nat.le_of_ble_eq_true rfl⟩) 1 0 rfl rfl [1] [0, 2] rfl rfl rfl (by decide) rfl hl.1 rfl (Nat.le_of_ble_eq_true rfl) zd_Q_failuresOf_5 ⟨Nat.le_of_ble_eq_true rfl, Nat.le_of_ble_eq_true rfl⟩ (fun r u H locs hw hP hD hS => ?_)
  obtain ⟨rfl, rfl⟩ := hw
  have hP : va_P (dC, dI) zcl [(ra, .inr (1, [.ref hp, .ref ah, .ref am, .ref at_, .ref asp, .ref afa, .ref ado, .ref adt, .ref aor, .int (nI cr), .int (nI ho), .int (nI nx), .int (nI ba), .int (nI pl), .int (nI tk), .long rr])), (afa, .inl (cI, 16, .inl fa)), (hp, .inr (0, [.int (nI n), .ref aw, .ref av, .ref az, .ref af]))] H := hP
  have hD : va_D A [(ra, .inr (1, [.ref hp, .ref ah, .ref am, .ref at_, .ref asp, .ref afa, .ref ado, .ref adt, .ref aor, .int (nI cr), .int (nI ho), .int (nI nx), .int (nI ba), .int (nI pl), .int (nI tk), .long rr])), (afa, .inl (cI, 16, .inl fa)), (hp, .inr (0, [.int (nI n), .ref aw, .ref av, .ref az, .ref af]))] := hD
  refine lv_if_eq (tgt := 20) hx hb zd_Q_failuresOf_8 (by decide) (fun c1_ => absurd c1_ (by decide)) (fun _ => ?_)
  refine lv_aload_n hx hb zd_Q_failuresOf_11 rfl (lv_at hl 0 rfl) ?_
  refine va_get (D := (dC, dI)) (ci := 1) (v := .ref afa) (C := zR_Q) (T := zF_Q) (N := 16) hx hb htz zi_Q hown hK hP 0 rfl rfl 5 (by decide) (htz _ zq_66) (fun _ h9 => h9) rfl zd_Q_failuresOf_12 ?_
  refine lv_iload_n hx hb zd_Q_failuresOf_15 rfl (lv_at hl 1 rfl) ?_
  refine z_iald hx hb hK hP 1 0 rfl rfl (j := j) (by omega) (by decide) zd_Q_failuresOf_16 ?_
  refine lv_goto (tgt := 21) hx hb zd_Q_failuresOf_17 (by decide) ?_
  have hP := hP.sub (ws' := [(ra, .inr (1, [.ref hp, .ref ah, .ref am, .ref at_, .ref asp, .ref afa, .ref ado, .ref adt, .ref aor, .int (nI cr), .int (nI ho), .int (nI nx), .int (nI ba), .int (nI pl), .int (nI tk), .long rr])), (hp, .inr (0, [.int (nI n), .ref aw, .ref av, .ref az, .ref af])), (afa, .inl (cI, 16, .inl fa))]) [0, 2, 1] rfl
  have hD := hD.sub (ws' := [(ra, .inr (1, [.ref hp, .ref ah, .ref am, .ref at_, .ref asp, .ref afa, .ref ado, .ref adt, .ref aor, .int (nI cr), .int (nI ho), .int (nI nx), .int (nI ba), .int (nI pl), .int (nI tk), .long rr])), (hp, .inr (0, [.int (nI n), .ref aw, .ref av, .ref az, .ref af])), (afa, .inl (cI, 16, .inl fa))]) [0, 2, 1] (by decide) rfl
  exact z_iret hx hb hr hlocks hP hK hD hS zd_Q_failuresOf_21 (by decide) (by decide) ⟨rfl, rfl⟩
set_option maxHeartbeats 4000000 in
set_option maxRecDepth 100000 in
/--  -/
theorem k_Race_doneTickOf_k (l : Launch) (dC : Nat → ClassId) (dI : Nat → Nat → Nat) (cI cJ cZ : ClassId) (ra : Nat) (hp : Nat) (ah : Nat) (am : Nat) (at_ : Nat) (asp : Nat) (afa : Nat) (ado : Nat) (adt : Nat) (aor : Nat) (cr : Nat) (ho : Nat) (nx : Nat) (ba : Nat) (pl : Nat) (tk : Nat) (rr : Int64) (aw : Nat) (av : Nat) (az : Nat) (af : Nat) (n : Nat) (dt : Nat → Int32) (j : Nat) (hn : n ≤ 16) (hj : j < n) (sz : Nat) : zMi l zy_Q_doneTickOf zw_Q_doneTickOf ({ frames := 1, cells := 0, slots := 0, locals := 21 }) [.ref ra, .int (nI j)] (dC, dI) zcl [(cI, .int), (cJ, .long), (cZ, .boolean)] [(ra, .inr (1, [.ref hp, .ref ah, .ref am, .ref at_, .ref asp, .ref afa, .ref ado, .ref adt, .ref aor, .int (nI cr), .int (nI ho), .int (nI nx), .int (nI ba), .int (nI pl), .int (nI tk), .long rr])), (hp, .inr (0, [.int (nI n), .ref aw, .ref av, .ref az, .ref af])), (adt, .inl (cI, 16, .inl dt))] sz (fun (r : Int32) (u : va_W) => r = dt j ∧ u = [(ra, .inr (1, [.ref hp, .ref ah, .ref am, .ref at_, .ref asp, .ref afa, .ref ado, .ref adt, .ref aor, .int (nI cr), .int (nI ho), .int (nI nx), .int (nI ba), .int (nI pl), .int (nI tk), .long rr])), (hp, .inr (0, [.int (nI n), .ref aw, .ref av, .ref az, .ref af])), (adt, .inl (cI, 16, .inl dt))]) := by
  refine z_ofi (cc := zc_Q_doneTickOf) (maxL := 2) (ret := (some .int)) (by decide) rfl (Nat.le_of_ble_eq_true rfl) ?_
  intro p e s m below meth c A ls hx hb hr hml hown htz hlocks hin hA hP hK hD hS hl
  have hown : s.vm.findClass zR_Q = some m.cls := hown
  have hl : lv_has ls 2 [(0, .ref ra), (1, .int (nI j))] := hl
  refine lv_aload_n hx hb zd_Q_doneTickOf_0 rfl (lv_at hl 0 rfl) ?_
  refine va_get (D := (dC, dI)) (ci := 1) (v := .ref hp) (C := zR_Q) (T := zF_Q) (N := 16) hx hb htz zi_Q hown hK hP 0 rfl rfl 0 (by decide) (htz _ zq_61) (fun _ h9 => h9) rfl zd_Q_doneTickOf_1 ?_
  refine lv_iload_n hx hb zd_Q_doneTickOf_4 rfl (lv_at hl 1 rfl) ?_
  refine z_Vi (As := [.int (nI j)]) (rest := []) (wc := [(hp, .inr (0, [.int (nI n), .ref aw, .ref av, .ref az, .ref af]))]) (wr := [(ra, .inr (1, [.ref hp, .ref ah, .ref am, .ref at_, .ref asp, .ref afa, .ref ado, .ref adt, .ref aor, .int (nI cr), .int (nI ho), .int (nI nx), .int (nI ba), .int (nI pl), .int (nI tk), .long rr])), (adt, .inl (cI, 16, .inl dt))]) ⟨hx, hb, hml, hown, htz⟩ hK hP hD hS hA (k_Plan_has_k l dC dI cI cJ cZ hp aw av az af n j (by first | assumption | omega) (by first | assumption | omega) s.heap.size) (zcwV 1 htz zq_147 zq_304 zq_145 zq_146 zq_2 (by decide +kernel) ⟨Nat.le_of_ble_eq_true rfl, Nat.le_of_ble_eq_true rfl⟩) 1 0 rfl rfl [1] [0, 2] rfl rfl rfl (by decide) rfl hl.1 rfl (Nat.le_of_ble_eq_true rfl) zd_Q_doneTickOf_5 ⟨Nat.le_of_ble_eq_true rfl, Nat.le_of_ble_eq_true rfl⟩ (fun r u H locs hw hP hD hS => ?_)
  obtain ⟨rfl, rfl⟩ := hw
  have hP : va_P (dC, dI) zcl [(ra, .inr (1, [.ref hp, .ref ah, .ref am, .ref at_, .ref asp, .ref afa, .ref ado, .ref adt, .ref aor, .int (nI cr), .int (nI ho), .int (nI nx), .int (nI ba), .int (nI pl), .int (nI tk), .long rr])), (adt, .inl (cI, 16, .inl dt)), (hp, .inr (0, [.int (nI n), .ref aw, .ref av, .ref az, .ref af]))] H := hP
  have hD : va_D A [(ra, .inr (1, [.ref hp, .ref ah, .ref am, .ref at_, .ref asp, .ref afa, .ref ado, .ref adt, .ref aor, .int (nI cr), .int (nI ho), .int (nI nx), .int (nI ba), .int (nI pl), .int (nI tk), .long rr])), (adt, .inl (cI, 16, .inl dt)), (hp, .inr (0, [.int (nI n), .ref aw, .ref av, .ref az, .ref af]))] := hD
  refine lv_if_eq (tgt := 20) hx hb zd_Q_doneTickOf_8 (by decide) (fun c1_ => absurd c1_ (by decide)) (fun _ => ?_)
  refine lv_aload_n hx hb zd_Q_doneTickOf_11 rfl (lv_at hl 0 rfl) ?_
  refine va_get (D := (dC, dI)) (ci := 1) (v := .ref adt) (C := zR_Q) (T := zF_Q) (N := 16) hx hb htz zi_Q hown hK hP 0 rfl rfl 7 (by decide) (htz _ zq_68) (fun _ h9 => h9) rfl zd_Q_doneTickOf_12 ?_
  refine lv_iload_n hx hb zd_Q_doneTickOf_15 rfl (lv_at hl 1 rfl) ?_
  refine z_iald hx hb hK hP 1 0 rfl rfl (j := j) (by omega) (by decide) zd_Q_doneTickOf_16 ?_
  refine lv_goto (tgt := 21) hx hb zd_Q_doneTickOf_17 (by decide) ?_
  have hP := hP.sub (ws' := [(ra, .inr (1, [.ref hp, .ref ah, .ref am, .ref at_, .ref asp, .ref afa, .ref ado, .ref adt, .ref aor, .int (nI cr), .int (nI ho), .int (nI nx), .int (nI ba), .int (nI pl), .int (nI tk), .long rr])), (hp, .inr (0, [.int (nI n), .ref aw, .ref av, .ref az, .ref af])), (adt, .inl (cI, 16, .inl dt))]) [0, 2, 1] rfl
  have hD := hD.sub (ws' := [(ra, .inr (1, [.ref hp, .ref ah, .ref am, .ref at_, .ref asp, .ref afa, .ref ado, .ref adt, .ref aor, .int (nI cr), .int (nI ho), .int (nI nx), .int (nI ba), .int (nI pl), .int (nI tk), .long rr])), (hp, .inr (0, [.int (nI n), .ref aw, .ref av, .ref az, .ref af])), (adt, .inl (cI, 16, .inl dt))]) [0, 2, 1] (by decide) rfl
  exact z_iret hx hb hr hlocks hP hK hD hS zd_Q_doneTickOf_21 (by decide) (by decide) ⟨rfl, rfl⟩
set_option maxHeartbeats 4000000 in
set_option maxRecDepth 100000 in
/--  -/
theorem k_Plan_has_m (l : Launch) (dC : Nat → ClassId) (dI : Nat → Nat → Nat) (cI cJ cZ : ClassId) (hp : Nat) (aw : Nat) (av : Nat) (az : Nat) (af : Nat) (n : Nat)  (sz : Nat) : zMi l zy_P_has zw_P_has ({ frames := 0, cells := 0, slots := 0, locals := 0 }) [.ref hp, .int (-1)] (dC, dI) zcl [(cI, .int), (cJ, .long), (cZ, .boolean)] [(hp, .inr (0, [.int (nI n), .ref aw, .ref av, .ref az, .ref af]))] sz (fun (r : Int32) (u : va_W) => r = nI 0 ∧ u = [(hp, .inr (0, [.int (nI n), .ref aw, .ref av, .ref az, .ref af]))]) := by
  refine z_ofi (cc := zc_P_has) (maxL := 2) (ret := (some .boolean)) (by decide) rfl (Nat.le_of_ble_eq_true rfl) ?_
  intro p e s m below meth c A ls hx hb hr hml hown htz hlocks hin hA hP hK hD hS hl
  have hown : s.vm.findClass zR_P = some m.cls := hown
  have hl : lv_has ls 2 [(0, .ref hp), (1, .int (-1))] := hl
  refine lv_iload_n hx hb zd_P_has_0 rfl (lv_at hl 1 rfl) ?_
  refine lv_if_lt (tgt := 16) hx hb zd_P_has_1 (by decide) (fun _ => ?_) (fun c1_ => absurd (by decide) c1_)
  refine lv_iconst (v := (nI 0)) hx hb zd_P_has_16 (by decide) ?_
  exact z_zret hx hb hr hlocks hP hK hD hS zd_P_has_17 (by decide) (by decide) rfl ⟨rfl, rfl⟩
set_option maxHeartbeats 4000000 in
set_option maxRecDepth 100000 in
/--  -/
theorem k_Plan_isBehindWinner_k (l : Launch) (dC : Nat → ClassId) (dI : Nat → Nat → Nat) (cI cJ cZ : ClassId) (hp : Nat) (aw : Nat) (av : Nat) (az : Nat) (af : Nat) (n : Nat) (se : Nat → Int32) (j : Nat) (hn : n ≤ 16) (hj : j < n) (sz : Nat) : zMi l zy_P_isBehindWinner zw_P_isBehindWinner ({ frames := 1, cells := 0, slots := 0, locals := 21 }) [.ref hp, .int (nI j)] (dC, dI) zcl [(cI, .int), (cJ, .long), (cZ, .boolean)] [(hp, .inr (0, [.int (nI n), .ref aw, .ref av, .ref az, .ref af])), (az, .inl (cZ, 16, .inl se))] sz (fun (r : Int32) (u : va_W) => (r = nI 1 ∧ u = [(hp, .inr (0, [.int (nI n), .ref aw, .ref av, .ref az, .ref af])), (az, .inl (cZ, 16, .inl se))] ∧ zwin se n < j) ∨ (r = nI 0 ∧ u = [(hp, .inr (0, [.int (nI n), .ref aw, .ref av, .ref az, .ref af])), (az, .inl (cZ, 16, .inl se))] ∧ j ≤ zwin se n)) := by
  refine z_ofi (cc := zc_P_isBehindWinner) (maxL := 3) (ret := (some .boolean)) (by decide) rfl (Nat.le_of_ble_eq_true rfl) ?_
  intro p e s m below meth c A ls hx hb hr hml hown htz hlocks hin hA hP hK hD hS hl
  have hown : s.vm.findClass zR_P = some m.cls := hown
  have hl : lv_has ls 3 [(0, .ref hp), (1, .int (nI j))] := hl
  refine lv_aload_n hx hb zd_P_isBehindWinner_0 rfl (lv_at hl 0 rfl) ?_
  refine z_Vi (As := []) (rest := []) (wc := [(hp, .inr (0, [.int (nI n), .ref aw, .ref av, .ref az, .ref af])), (az, .inl (cZ, 16, .inl se))]) (wr := []) ⟨hx, hb, hml, hown, htz⟩ hK hP hD hS hA (k_Plan_winner l dC dI cI cJ cZ hp aw av az af n se (by first | assumption | omega) s.heap.size) (zcwV 0 htz zq_332 zq_365 zq_330 zq_331 zq_2 (by decide +kernel) ⟨Nat.le_of_ble_eq_true rfl, Nat.le_of_ble_eq_true rfl⟩) 0 0 rfl rfl [0, 1] [] rfl rfl rfl (by decide) rfl hl.1 rfl (Nat.le_of_ble_eq_true rfl) zd_P_isBehindWinner_1 ⟨Nat.le_of_ble_eq_true rfl, Nat.le_of_ble_eq_true rfl⟩ (fun r u H locs hw hP hD hS => ?_)
  rcases hw with ⟨rfl, rfl, hw1_⟩ | ⟨rfl, rfl, hw2_⟩
  · have hP : va_P (dC, dI) zcl [(hp, .inr (0, [.int (nI n), .ref aw, .ref av, .ref az, .ref af])), (az, .inl (cZ, 16, .inl se))] H := hP
    have hD : va_D A [(hp, .inr (0, [.int (nI n), .ref aw, .ref av, .ref az, .ref af])), (az, .inl (cZ, 16, .inl se))] := hD
    have hw9 := hw1_
    refine lv_istore_n (lv' := [(2, .int (nI (zwin se n))), (0, .ref hp), (1, .int (nI j))]) hx hb zd_P_isBehindWinner_4 rfl hl (by decide) rfl (fun ls hl => ?_)
    refine lv_iload_n hx hb zd_P_isBehindWinner_5 rfl (lv_at hl 0 rfl) ?_
    refine lv_iconst (v := (-1)) hx hb zd_P_isBehindWinner_6 (by decide) ?_
    refine lv_icmp_eq (tgt := 19) hx hb zd_P_isBehindWinner_7 (by decide) (fun c3_ => absurd c3_ (nI_nm1 (by omega))) (fun c3_ => ?_)
    refine lv_iload_n hx hb zd_P_isBehindWinner_10 rfl (lv_at hl 2 rfl) ?_
    refine lv_iload_n hx hb zd_P_isBehindWinner_11 rfl (lv_at hl 0 rfl) ?_
    refine lv_icmp_le (tgt := 19) hx hb zd_P_isBehindWinner_12 (by decide) (fun c4_ => ?_) (fun c4_ => ?_)
    · have hb9 : j ≤ zwin se n := Nat.le_of_not_lt (fun h => nI_ge h (by omega) c4_)
      refine lv_iconst (v := (nI 0)) hx hb zd_P_isBehindWinner_19 (by decide) ?_
      exact z_zret hx hb hr hlocks hP hK hD hS zd_P_isBehindWinner_20 (by decide) (by decide) rfl (Or.inr ⟨rfl, rfl, by first | exact hb9 | omega⟩)
    · have hb9 : zwin se n < j := Nat.lt_of_not_le (fun h => c4_ (nI_le h (by omega)))
      refine lv_iconst (v := (nI 1)) hx hb zd_P_isBehindWinner_15 (by decide) ?_
      refine lv_goto (tgt := 20) hx hb zd_P_isBehindWinner_16 (by decide) ?_
      exact z_zret hx hb hr hlocks hP hK hD hS zd_P_isBehindWinner_20 (by decide) (by decide) rfl (Or.inl ⟨rfl, rfl, hb9⟩)
  · have hP : va_P (dC, dI) zcl [(hp, .inr (0, [.int (nI n), .ref aw, .ref av, .ref az, .ref af])), (az, .inl (cZ, 16, .inl se))] H := hP
    have hD : va_D A [(hp, .inr (0, [.int (nI n), .ref aw, .ref av, .ref az, .ref af])), (az, .inl (cZ, 16, .inl se))] := hD
    have hw9 := hw2_
    refine lv_istore_n (lv' := [(2, .int (-1)), (0, .ref hp), (1, .int (nI j))]) hx hb zd_P_isBehindWinner_4 rfl hl (by decide) rfl (fun ls hl => ?_)
    refine lv_iload_n hx hb zd_P_isBehindWinner_5 rfl (lv_at hl 0 rfl) ?_
    refine lv_iconst (v := (-1)) hx hb zd_P_isBehindWinner_6 (by decide) ?_
    refine lv_icmp_eq (tgt := 19) hx hb zd_P_isBehindWinner_7 (by decide) (fun c5_ => ?_) (fun c5_ => absurd rfl c5_)
    refine lv_iconst (v := (nI 0)) hx hb zd_P_isBehindWinner_19 (by decide) ?_
    exact z_zret hx hb hr hlocks hP hK hD hS zd_P_isBehindWinner_20 (by decide) (by decide) rfl (Or.inr ⟨rfl, rfl, by first | exact hb9 | omega⟩)
set_option maxHeartbeats 4000000 in
set_option maxRecDepth 100000 in
/--  -/
theorem k_Plan_sumOfWorths (l : Launch) (dC : Nat → ClassId) (dI : Nat → Nat → Nat) (cI cJ cZ : ClassId) (hp : Nat) (aw : Nat) (av : Nat) (az : Nat) (af : Nat) (n : Nat) (wo : Nat → Int64) (hn : n ≤ 16) (sz : Nat) : zMl l zy_P_sumOfWorths zw_P_sumOfWorths ({ frames := 0, cells := 0, slots := 0, locals := 0 }) [.ref hp] (dC, dI) zcl [(cI, .int), (cJ, .long), (cZ, .boolean)] [(hp, .inr (0, [.int (nI n), .ref aw, .ref av, .ref az, .ref af])), (av, .inl (cJ, 16, .inr (.inl wo)))] sz (fun (r : Int64) (u : va_W) => r = zsum wo n ∧ u = [(hp, .inr (0, [.int (nI n), .ref aw, .ref av, .ref az, .ref af])), (av, .inl (cJ, 16, .inr (.inl wo)))]) := by
  refine z_ofl (cc := zc_P_sumOfWorths) (maxL := 4) (ret := (some .long)) (by decide) rfl (Nat.le_of_ble_eq_true rfl) ?_
  intro p e s m below meth c A ls hx hb hr hml hown htz hlocks hin hA hP hK hD hS hl
  have hown : s.vm.findClass zR_P = some m.cls := hown
  have hl : lv_has ls 4 [(0, .ref hp)] := hl
  refine lv_lconst (v := 0) hx hb zd_P_sumOfWorths_0 (by decide) ?_
  refine lv_lstore_n (lv' := [(1, .long 0), (0, .ref hp)]) hx hb zd_P_sumOfWorths_1 rfl hl (by decide) rfl (fun ls hl => ?_)
  refine lv_iconst (v := (nI 0)) hx hb zd_P_sumOfWorths_2 (by decide) ?_
  refine lv_istore_n (lv' := [(3, .int (nI 0)), (1, .long 0), (0, .ref hp)]) hx hb zd_P_sumOfWorths_3 rfl hl (by decide) rfl (fun ls hl => ?_)
  have lp4 : ∀ (fuel : Nat) (k : Nat) (sm : Int64) (H : Heap) (locs : List Loc) (ls : Array Slot), (k ≤ n) → (sm = zsum wo k) → n - k < fuel → va_P (dC, dI) zcl [(hp, .inr (0, [.int (nI n), .ref aw, .ref av, .ref az, .ref af])), (av, .inl (cJ, 16, .inr (.inl wo)))] H → va_D A [(hp, .inr (0, [.int (nI n), .ref aw, .ref av, .ref az, .ref af])), (av, .inl (cJ, 16, .inr (.inl wo)))] → va_S A s.heap H locs → lv_has ls 4 [(3, .int (nI k)), (1, .long sm), (0, .ref hp)] → W p l e ({ frames := 0, cells := 0, slots := 0, locals := 0 } : Room) s m [.ref hp].toArray below meth c H locs 0 0 (MQ below (va_Ql (fun (r : Int64) (u : va_W) => r = zsum wo n ∧ u = [(hp, .inr (0, [.int (nI n), .ref aw, .ref av, .ref az, .ref af])), (av, .inl (cJ, 16, .inr (.inl wo)))]) (zAt (dC, dI) zcl [(cI, .int), (cJ, .long), (cZ, .boolean)] A) A) [.ref hp].toArray s 0 0 A) (F0 m 4 ls []) := by
    intro fuel
    induction fuel with
    | zero => intro k sm H locs ls hk hsm hf; exact absurd hf (Nat.not_lt_zero _)
    | succ fuel ih =>
      intro k sm H locs ls hk hsm hf hP hD hS hl
      refine lv_iload_n hx hb zd_P_sumOfWorths_4 rfl (lv_at hl 0 rfl) ?_
      refine lv_aload_n hx hb zd_P_sumOfWorths_5 rfl (lv_at hl 2 rfl) ?_
      refine va_get (D := (dC, dI)) (ci := 0) (v := .int (nI n)) (C := zR_P) (T := zF_P) (N := 5) hx hb htz zi_P hown hK hP 0 rfl rfl 0 (by decide) (htz _ zq_36) (fun _ h9 => h9) rfl zd_P_sumOfWorths_6 ?_
      refine lv_icmp_ge (tgt := 27) hx hb zd_P_sumOfWorths_9 (by decide) (fun c1_ => ?_) (fun c1_ => ?_)
      · have hk2 : k = n := Nat.le_antisymm hk (Nat.le_of_not_lt (fun h => nI_ge h (by omega) c1_))
        refine lv_lload_n hx hb zd_P_sumOfWorths_27 rfl (lv_at hl 1 rfl) ?_
        exact z_lret hx hb hr hlocks hP hK hD hS zd_P_sumOfWorths_28 (by decide) (by decide) ⟨by rw [hsm, hk2], rfl⟩
      · have hk2 : k < n := Nat.lt_of_not_le (fun h => c1_ (nI_le h (by omega)))
        refine lv_lload_n hx hb zd_P_sumOfWorths_12 rfl (lv_at hl 1 rfl) ?_
        refine lv_aload_n hx hb zd_P_sumOfWorths_13 rfl (lv_at hl 2 rfl) ?_
        refine va_get (D := (dC, dI)) (ci := 0) (v := .ref av) (C := zR_P) (T := zF_P) (N := 5) hx hb htz zi_P hown hK hP 0 rfl rfl 2 (by decide) (htz _ zq_38) (fun _ h9 => h9) rfl zd_P_sumOfWorths_14 ?_
        refine lv_iload_n hx hb zd_P_sumOfWorths_17 rfl (lv_at hl 0 rfl) ?_
        refine z_lald hx hb hK hP 1 1 rfl rfl (j := k) (by omega) (by decide) zd_P_sumOfWorths_18 ?_
        refine lv_ladd hx hb zd_P_sumOfWorths_19 ?_
        refine z_topl (y := zsum wo (k + 1)) (by rw [hsm]; rfl) ?_
        refine lv_lstore_n (lv' := [(1, .long (zsum wo (k + 1))), (3, .int (nI k)), (0, .ref hp)]) hx hb zd_P_sumOfWorths_20 rfl hl (by decide) rfl (fun ls hl => ?_)
        refine lv_iinc (v := (nI (k + 1))) (lv' := [(3, .int (nI (k + 1))), (1, .long (zsum wo (k + 1))), (0, .ref hp)]) hx hb zd_P_sumOfWorths_21 hl (k := 1) rfl (nI_1 k) (by decide) rfl (fun ls hl => ?_)
        refine lv_goto (tgt := 4) hx hb zd_P_sumOfWorths_24 (by decide) ?_
        exact ih (k + 1) (zsum wo (k + 1)) _ _ _ (by omega) rfl (by omega) hP hD hS hl
  exact lp4 _ 0 0 _ _ _ (Nat.zero_le _) rfl (Nat.lt_succ_self _) hP hD hS hl
set_option maxHeartbeats 4000000 in
set_option maxRecDepth 100000 in
/--  -/
theorem k_Plan_outcome (l : Launch) (dC : Nat → ClassId) (dI : Nat → Nat → Nat) (cI cJ cZ : ClassId) (hp : Nat) (aw : Nat) (av : Nat) (az : Nat) (af : Nat) (n : Nat) (wo : Nat → Int64) (se : Nat → Int32) (hn : n ≤ 16) (sz : Nat) : zMl l zy_P_outcome zw_P_outcome ({ frames := 1, cells := 0, slots := 0, locals := 23 }) [.ref hp] (dC, dI) zcl [(cI, .int), (cJ, .long), (cZ, .boolean)] [(hp, .inr (0, [.int (nI n), .ref aw, .ref av, .ref az, .ref af])), (av, .inl (cJ, 16, .inr (.inl wo))), (az, .inl (cZ, 16, .inl se))] sz (fun (r : Int64) (u : va_W) => r = zans se wo n ∧ u = [(hp, .inr (0, [.int (nI n), .ref aw, .ref av, .ref az, .ref af])), (av, .inl (cJ, 16, .inr (.inl wo))), (az, .inl (cZ, 16, .inl se))]) := by
  refine z_ofl (cc := zc_P_outcome) (maxL := 2) (ret := (some .long)) (by decide) rfl (Nat.le_of_ble_eq_true rfl) ?_
  intro p e s m below meth c A ls hx hb hr hml hown htz hlocks hin hA hP hK hD hS hl
  have hown : s.vm.findClass zR_P = some m.cls := hown
  have hl : lv_has ls 2 [(0, .ref hp)] := hl
  refine lv_aload_n hx hb zd_P_outcome_0 rfl (lv_at hl 0 rfl) ?_
  refine z_Vi (As := []) (rest := []) (wc := [(hp, .inr (0, [.int (nI n), .ref aw, .ref av, .ref az, .ref af])), (az, .inl (cZ, 16, .inl se))]) (wr := [(av, .inl (cJ, 16, .inr (.inl wo)))]) ⟨hx, hb, hml, hown, htz⟩ hK hP hD hS hA (k_Plan_winner l dC dI cI cJ cZ hp aw av az af n se (by first | assumption | omega) s.heap.size) (zcwV 0 htz zq_332 zq_365 zq_330 zq_331 zq_2 (by decide +kernel) ⟨Nat.le_of_ble_eq_true rfl, Nat.le_of_ble_eq_true rfl⟩) 0 0 rfl rfl [0, 2] [1] rfl rfl rfl (by decide) rfl hl.1 rfl (Nat.le_of_ble_eq_true rfl) zd_P_outcome_1 ⟨Nat.le_of_ble_eq_true rfl, Nat.le_of_ble_eq_true rfl⟩ (fun r u H locs hw hP hD hS => ?_)
  rcases hw with ⟨rfl, rfl, hw1_⟩ | ⟨rfl, rfl, hw2_⟩
  · have hP : va_P (dC, dI) zcl [(av, .inl (cJ, 16, .inr (.inl wo))), (hp, .inr (0, [.int (nI n), .ref aw, .ref av, .ref az, .ref af])), (az, .inl (cZ, 16, .inl se))] H := hP
    have hD : va_D A [(av, .inl (cJ, 16, .inr (.inl wo))), (hp, .inr (0, [.int (nI n), .ref aw, .ref av, .ref az, .ref af])), (az, .inl (cZ, 16, .inl se))] := hD
    have hw9 := hw1_
    refine lv_istore_n (lv' := [(1, .int (nI (zwin se n))), (0, .ref hp)]) hx hb zd_P_outcome_4 rfl hl (by decide) rfl (fun ls hl => ?_)
    refine lv_aload_n hx hb zd_P_outcome_5 rfl (lv_at hl 1 rfl) ?_
    refine lv_iload_n hx hb zd_P_outcome_6 rfl (lv_at hl 0 rfl) ?_
    refine z_Vi (As := [.int (nI (zwin se n))]) (rest := []) (wc := [(hp, .inr (0, [.int (nI n), .ref aw, .ref av, .ref az, .ref af]))]) (wr := [(av, .inl (cJ, 16, .inr (.inl wo))), (az, .inl (cZ, 16, .inl se))]) ⟨hx, hb, hml, hown, htz⟩ hK hP hD hS hA (k_Plan_has_k l dC dI cI cJ cZ hp aw av az af n (zwin se n) (by first | assumption | omega) (by first | assumption | omega) H.size) (zcwV 1 htz zq_147 zq_236 zq_145 zq_146 zq_2 (by decide +kernel) ⟨Nat.le_of_ble_eq_true rfl, Nat.le_of_ble_eq_true rfl⟩) 1 0 rfl rfl [1] [0, 2] rfl rfl rfl (by decide) rfl hl.1 rfl (Nat.le_of_ble_eq_true rfl) zd_P_outcome_7 ⟨Nat.le_of_ble_eq_true rfl, Nat.le_of_ble_eq_true rfl⟩ (fun r u H locs hw hP hD hS => ?_)
    obtain ⟨rfl, rfl⟩ := hw
    have hP : va_P (dC, dI) zcl [(av, .inl (cJ, 16, .inr (.inl wo))), (az, .inl (cZ, 16, .inl se)), (hp, .inr (0, [.int (nI n), .ref aw, .ref av, .ref az, .ref af]))] H := hP
    have hD : va_D A [(av, .inl (cJ, 16, .inr (.inl wo))), (az, .inl (cZ, 16, .inl se)), (hp, .inr (0, [.int (nI n), .ref aw, .ref av, .ref az, .ref af]))] := hD
    refine lv_if_eq (tgt := 22) hx hb zd_P_outcome_10 (by decide) (fun c3_ => absurd c3_ (by decide)) (fun _ => ?_)
    refine lv_aload_n hx hb zd_P_outcome_13 rfl (lv_at hl 1 rfl) ?_
    refine va_get (D := (dC, dI)) (ci := 0) (v := .ref av) (C := zR_P) (T := zF_P) (N := 5) hx hb htz zi_P hown hK hP 2 rfl rfl 2 (by decide) (htz _ zq_38) (fun _ h9 => h9) rfl zd_P_outcome_14 ?_
    refine lv_iload_n hx hb zd_P_outcome_17 rfl (lv_at hl 0 rfl) ?_
    refine z_lald hx hb hK hP 0 1 rfl rfl (j := (zwin se n)) (by omega) (by decide) zd_P_outcome_18 ?_
    refine lv_goto (tgt := 26) hx hb zd_P_outcome_19 (by decide) ?_
    have hP := hP.sub (ws' := [(hp, .inr (0, [.int (nI n), .ref aw, .ref av, .ref az, .ref af])), (av, .inl (cJ, 16, .inr (.inl wo))), (az, .inl (cZ, 16, .inl se))]) [2, 0, 1] rfl
    have hD := hD.sub (ws' := [(hp, .inr (0, [.int (nI n), .ref aw, .ref av, .ref az, .ref af])), (av, .inl (cJ, 16, .inr (.inl wo))), (az, .inl (cZ, 16, .inl se))]) [2, 0, 1] (by decide) rfl
    exact z_lret hx hb hr hlocks hP hK hD hS zd_P_outcome_26 (by decide) (by decide) ⟨by simp only [zans]; rw [if_pos hw9], rfl⟩
  · have hP : va_P (dC, dI) zcl [(av, .inl (cJ, 16, .inr (.inl wo))), (hp, .inr (0, [.int (nI n), .ref aw, .ref av, .ref az, .ref af])), (az, .inl (cZ, 16, .inl se))] H := hP
    have hD : va_D A [(av, .inl (cJ, 16, .inr (.inl wo))), (hp, .inr (0, [.int (nI n), .ref aw, .ref av, .ref az, .ref af])), (az, .inl (cZ, 16, .inl se))] := hD
    have hw9 := hw2_
    refine lv_istore_n (lv' := [(1, .int (-1)), (0, .ref hp)]) hx hb zd_P_outcome_4 rfl hl (by decide) rfl (fun ls hl => ?_)
    refine lv_aload_n hx hb zd_P_outcome_5 rfl (lv_at hl 1 rfl) ?_
    refine lv_iload_n hx hb zd_P_outcome_6 rfl (lv_at hl 0 rfl) ?_
    refine z_Vi (As := [.int (-1)]) (rest := []) (wc := [(hp, .inr (0, [.int (nI n), .ref aw, .ref av, .ref az, .ref af]))]) (wr := [(av, .inl (cJ, 16, .inr (.inl wo))), (az, .inl (cZ, 16, .inl se))]) ⟨hx, hb, hml, hown, htz⟩ hK hP hD hS hA (k_Plan_has_m l dC dI cI cJ cZ hp aw av az af n H.size) (zcwV 1 htz zq_147 zq_236 zq_145 zq_146 zq_2 (by decide +kernel) ⟨Nat.le_of_ble_eq_true rfl, Nat.le_of_ble_eq_true rfl⟩) 1 0 rfl rfl [1] [0, 2] rfl rfl rfl (by decide) rfl hl.1 rfl (Nat.le_of_ble_eq_true rfl) zd_P_outcome_7 ⟨Nat.le_of_ble_eq_true rfl, Nat.le_of_ble_eq_true rfl⟩ (fun r u H locs hw hP hD hS => ?_)
    obtain ⟨rfl, rfl⟩ := hw
    have hP : va_P (dC, dI) zcl [(av, .inl (cJ, 16, .inr (.inl wo))), (az, .inl (cZ, 16, .inl se)), (hp, .inr (0, [.int (nI n), .ref aw, .ref av, .ref az, .ref af]))] H := hP
    have hD : va_D A [(av, .inl (cJ, 16, .inr (.inl wo))), (az, .inl (cZ, 16, .inl se)), (hp, .inr (0, [.int (nI n), .ref aw, .ref av, .ref az, .ref af]))] := hD
    refine lv_if_eq (tgt := 22) hx hb zd_P_outcome_10 (by decide) (fun _ => ?_) (fun c4_ => absurd (by decide) c4_)
    refine lv_aload_n hx hb zd_P_outcome_22 rfl (lv_at hl 1 rfl) ?_
    refine z_Vl (As := []) (rest := []) (wc := [(hp, .inr (0, [.int (nI n), .ref aw, .ref av, .ref az, .ref af])), (av, .inl (cJ, 16, .inr (.inl wo)))]) (wr := [(az, .inl (cZ, 16, .inl se))]) ⟨hx, hb, hml, hown, htz⟩ hK hP hD hS hA (k_Plan_sumOfWorths l dC dI cI cJ cZ hp aw av az af n wo (by first | assumption | omega) H.size) (zcwV 0 htz zq_369 zq_366 zq_368 zp_13 zq_2 (by decide +kernel) ⟨Nat.le_of_ble_eq_true rfl, Nat.le_of_ble_eq_true rfl⟩) 2 0 rfl rfl [2, 0] [1] rfl rfl rfl (by decide) rfl hl.1 rfl (Nat.le_of_ble_eq_true rfl) zd_P_outcome_23 ⟨Nat.le_of_ble_eq_true rfl, Nat.le_of_ble_eq_true rfl⟩ (fun r u H locs hw hP hD hS => ?_)
    obtain ⟨rfl, rfl⟩ := hw
    have hP : va_P (dC, dI) zcl [(az, .inl (cZ, 16, .inl se)), (hp, .inr (0, [.int (nI n), .ref aw, .ref av, .ref az, .ref af])), (av, .inl (cJ, 16, .inr (.inl wo)))] H := hP
    have hD : va_D A [(az, .inl (cZ, 16, .inl se)), (hp, .inr (0, [.int (nI n), .ref aw, .ref av, .ref az, .ref af])), (av, .inl (cJ, 16, .inr (.inl wo)))] := hD
    have hP := hP.sub (ws' := [(hp, .inr (0, [.int (nI n), .ref aw, .ref av, .ref az, .ref af])), (av, .inl (cJ, 16, .inr (.inl wo))), (az, .inl (cZ, 16, .inl se))]) [1, 2, 0] rfl
    have hD := hD.sub (ws' := [(hp, .inr (0, [.int (nI n), .ref aw, .ref av, .ref az, .ref af])), (av, .inl (cJ, 16, .inr (.inl wo))), (az, .inl (cZ, 16, .inl se))]) [1, 2, 0] (by decide) rfl
    exact z_lret hx hb hr hlocks hP hK hD hS zd_P_outcome_26 (by decide) (by decide) ⟨by simp only [zans]; rw [if_neg (by omega)], rfl⟩
set_option maxHeartbeats 4000000 in
set_option maxRecDepth 100000 in
/--  -/
theorem k_Plan_change_k (l : Launch) (dC : Nat → ClassId) (dI : Nat → Nat → Nat) (cI cJ cZ : ClassId) (hp : Nat) (aw : Nat) (av : Nat) (az : Nat) (af : Nat) (n : Nat) (wk : Nat → Int32) (wo : Nat → Int64) (se : Nat → Int32) (j : Nat) (w : Int32) (v : Int64) (b : Int32) (hn : n ≤ 16) (hj : j < n) (hbb : vp_nar .boolean b = b) (sz : Nat) : zMi l zy_P_change zw_P_change ({ frames := 1, cells := 0, slots := 0, locals := 21 }) [.ref hp, .int (nI j), .int w, .long v, .int b] (dC, dI) zcl [(cI, .int), (cJ, .long), (cZ, .boolean)] [(hp, .inr (0, [.int (nI n), .ref aw, .ref av, .ref az, .ref af])), (aw, .inl (cI, 16, .inl wk)), (av, .inl (cJ, 16, .inr (.inl wo))), (az, .inl (cZ, 16, .inl se))] sz (fun (r : Int32) (u : va_W) => (r = nI 1 ∧ u = [(hp, .inr (0, [.int (nI n), .ref aw, .ref av, .ref az, .ref af])), (aw, .inl (cI, 16, .inl (upd wk j w))), (av, .inl (cJ, 16, .inr (.inl (vp_updL wo j v)))), (az, .inl (cZ, 16, .inl (upd se j b)))] ∧ ¬ (wk j = w ∧ wo j = v ∧ se j = b)) ∨ (r = nI 0 ∧ u = [(hp, .inr (0, [.int (nI n), .ref aw, .ref av, .ref az, .ref af])), (aw, .inl (cI, 16, .inl (upd wk j w))), (av, .inl (cJ, 16, .inr (.inl (vp_updL wo j v)))), (az, .inl (cZ, 16, .inl (upd se j b)))] ∧ wk j = w ∧ wo j = v ∧ se j = b)) := by
  refine z_ofi (cc := zc_P_change) (maxL := 7) (ret := (some .boolean)) (by decide) rfl (Nat.le_of_ble_eq_true rfl) ?_
  intro p e s m below meth c A ls hx hb hr hml hown htz hlocks hin hA hP hK hD hS hl
  have hown : s.vm.findClass zR_P = some m.cls := hown
  have hl : lv_has ls 7 [(0, .ref hp), (1, .int (nI j)), (2, .int w), (3, .long v), (5, .int b)] := hl
  refine lv_aload_n hx hb zd_P_change_0 rfl (lv_at hl 0 rfl) ?_
  refine lv_iload_n hx hb zd_P_change_1 rfl (lv_at hl 1 rfl) ?_
  refine z_Vi (As := [.int (nI j)]) (rest := []) (wc := [(hp, .inr (0, [.int (nI n), .ref aw, .ref av, .ref az, .ref af]))]) (wr := [(aw, .inl (cI, 16, .inl wk)), (av, .inl (cJ, 16, .inr (.inl wo))), (az, .inl (cZ, 16, .inl se))]) ⟨hx, hb, hml, hown, htz⟩ hK hP hD hS hA (k_Plan_has_k l dC dI cI cJ cZ hp aw av az af n j (by first | assumption | omega) (by first | assumption | omega) s.heap.size) (zcwV 1 htz zq_147 zq_236 zq_145 zq_146 zq_2 (by decide +kernel) ⟨Nat.le_of_ble_eq_true rfl, Nat.le_of_ble_eq_true rfl⟩) 0 0 rfl rfl [0] [1, 2, 3] rfl rfl rfl (by decide) rfl hl.1 rfl (Nat.le_of_ble_eq_true rfl) zd_P_change_2 ⟨Nat.le_of_ble_eq_true rfl, Nat.le_of_ble_eq_true rfl⟩ (fun r u H locs hw hP hD hS => ?_)
  obtain ⟨rfl, rfl⟩ := hw
  have hP : va_P (dC, dI) zcl [(aw, .inl (cI, 16, .inl wk)), (av, .inl (cJ, 16, .inr (.inl wo))), (az, .inl (cZ, 16, .inl se)), (hp, .inr (0, [.int (nI n), .ref aw, .ref av, .ref az, .ref af]))] H := hP
  have hD : va_D A [(aw, .inl (cI, 16, .inl wk)), (av, .inl (cJ, 16, .inr (.inl wo))), (az, .inl (cZ, 16, .inl se)), (hp, .inr (0, [.int (nI n), .ref aw, .ref av, .ref az, .ref af]))] := hD
  refine lv_if_ne (tgt := 10) hx hb zd_P_change_5 (by decide) (fun _ => ?_) (fun c1_ => absurd c1_ (by decide))
  refine lv_aload_n hx hb zd_P_change_10 rfl (lv_at hl 0 rfl) ?_
  refine va_get (D := (dC, dI)) (ci := 0) (v := .ref aw) (C := zR_P) (T := zF_P) (N := 5) hx hb htz zi_P hown hK hP 3 rfl rfl 1 (by decide) (htz _ zq_37) (fun _ h9 => h9) rfl zd_P_change_11 ?_
  refine lv_iload_n hx hb zd_P_change_14 rfl (lv_at hl 1 rfl) ?_
  refine z_iald hx hb hK hP 0 0 rfl rfl (j := j) (by omega) (by decide) zd_P_change_15 ?_
  refine lv_iload_n hx hb zd_P_change_16 rfl (lv_at hl 2 rfl) ?_
  refine lv_icmp_ne (tgt := 42) hx hb zd_P_change_17 (by decide) (fun c2_ => ?_) (fun c2_ => ?_)
  · have hc9 : ¬ (wk j = w ∧ wo j = v ∧ se j = b) := fun h => c2_ h.1
    refine lv_iconst (v := (nI 1)) hx hb zd_P_change_42 (by decide) ?_
    refine lv_goto (tgt := 47) hx hb zd_P_change_43 (by decide) ?_
    refine lv_istore (lv' := [(6, .int (nI 1)), (0, .ref hp), (1, .int (nI j)), (2, .int w), (3, .long v), (5, .int b)]) hx hb zd_P_change_47 hl (by decide) rfl (fun ls hl => ?_)
    refine lv_aload_n hx hb zd_P_change_49 rfl (lv_at hl 1 rfl) ?_
    refine va_get (D := (dC, dI)) (ci := 0) (v := .ref aw) (C := zR_P) (T := zF_P) (N := 5) hx hb htz zi_P hown hK hP 3 rfl rfl 1 (by decide) (htz _ zq_37) (fun _ h9 => h9) rfl zd_P_change_50 ?_
    refine lv_iload_n hx hb zd_P_change_53 rfl (lv_at hl 2 rfl) ?_
    refine lv_iload_n hx hb zd_P_change_54 rfl (lv_at hl 3 rfl) ?_
    refine z_iast hx hb hK hP hD hS 0 0 rfl rfl (j := j) (by omega) (by decide) zd_P_change_55 (fun H locs hP hD hS => ?_)
    have hP : va_P (dC, dI) zcl [(aw, .inl (cI, 16, .inl (upd wk j w))), (av, .inl (cJ, 16, .inr (.inl wo))), (az, .inl (cZ, 16, .inl se)), (hp, .inr (0, [.int (nI n), .ref aw, .ref av, .ref az, .ref af]))] H := hP
    have hD : va_D A [(aw, .inl (cI, 16, .inl (upd wk j w))), (av, .inl (cJ, 16, .inr (.inl wo))), (az, .inl (cZ, 16, .inl se)), (hp, .inr (0, [.int (nI n), .ref aw, .ref av, .ref az, .ref af]))] := hD
    refine lv_aload_n hx hb zd_P_change_56 rfl (lv_at hl 1 rfl) ?_
    refine va_get (D := (dC, dI)) (ci := 0) (v := .ref av) (C := zR_P) (T := zF_P) (N := 5) hx hb htz zi_P hown hK hP 3 rfl rfl 2 (by decide) (htz _ zq_38) (fun _ h9 => h9) rfl zd_P_change_57 ?_
    refine lv_iload_n hx hb zd_P_change_60 rfl (lv_at hl 2 rfl) ?_
    refine lv_lload_n hx hb zd_P_change_61 rfl (lv_at hl 4 rfl) ?_
    refine z_last hx hb hK hP hD hS 1 1 rfl rfl (j := j) (by omega) (by decide) zd_P_change_62 (fun H locs hP hD hS => ?_)
    have hP : va_P (dC, dI) zcl [(aw, .inl (cI, 16, .inl (upd wk j w))), (av, .inl (cJ, 16, .inr (.inl (vp_updL wo j v)))), (az, .inl (cZ, 16, .inl se)), (hp, .inr (0, [.int (nI n), .ref aw, .ref av, .ref az, .ref af]))] H := hP
    have hD : va_D A [(aw, .inl (cI, 16, .inl (upd wk j w))), (av, .inl (cJ, 16, .inr (.inl (vp_updL wo j v)))), (az, .inl (cZ, 16, .inl se)), (hp, .inr (0, [.int (nI n), .ref aw, .ref av, .ref az, .ref af]))] := hD
    refine lv_aload_n hx hb zd_P_change_63 rfl (lv_at hl 1 rfl) ?_
    refine va_get (D := (dC, dI)) (ci := 0) (v := .ref az) (C := zR_P) (T := zF_P) (N := 5) hx hb htz zi_P hown hK hP 3 rfl rfl 3 (by decide) (htz _ zq_39) (fun _ h9 => h9) rfl zd_P_change_64 ?_
    refine lv_iload_n hx hb zd_P_change_67 rfl (lv_at hl 2 rfl) ?_
    refine lv_iload hx hb zd_P_change_68 (lv_at hl 5 rfl) ?_
    refine z_zast hx hb hK hP hD hS 2 2 rfl rfl (j := j) (by omega) (by decide) hbb zd_P_change_70 (fun H locs hP hD hS => ?_)
    have hP : va_P (dC, dI) zcl [(aw, .inl (cI, 16, .inl (upd wk j w))), (av, .inl (cJ, 16, .inr (.inl (vp_updL wo j v)))), (az, .inl (cZ, 16, .inl (upd se j b))), (hp, .inr (0, [.int (nI n), .ref aw, .ref av, .ref az, .ref af]))] H := hP
    have hD : va_D A [(aw, .inl (cI, 16, .inl (upd wk j w))), (av, .inl (cJ, 16, .inr (.inl (vp_updL wo j v)))), (az, .inl (cZ, 16, .inl (upd se j b))), (hp, .inr (0, [.int (nI n), .ref aw, .ref av, .ref az, .ref af]))] := hD
    refine lv_iload hx hb zd_P_change_71 (lv_at hl 0 rfl) ?_
    have hP := hP.sub (ws' := [(hp, .inr (0, [.int (nI n), .ref aw, .ref av, .ref az, .ref af])), (aw, .inl (cI, 16, .inl (upd wk j w))), (av, .inl (cJ, 16, .inr (.inl (vp_updL wo j v)))), (az, .inl (cZ, 16, .inl (upd se j b)))]) [3, 0, 1, 2] rfl
    have hD := hD.sub (ws' := [(hp, .inr (0, [.int (nI n), .ref aw, .ref av, .ref az, .ref af])), (aw, .inl (cI, 16, .inl (upd wk j w))), (av, .inl (cJ, 16, .inr (.inl (vp_updL wo j v)))), (az, .inl (cZ, 16, .inl (upd se j b)))]) [3, 0, 1, 2] (by decide) rfl
    exact z_zret hx hb hr hlocks hP hK hD hS zd_P_change_73 (by decide) (by decide) rfl (Or.inl ⟨rfl, rfl, hc9⟩)
  · have h1_ := c2_
    refine lv_aload_n hx hb zd_P_change_20 rfl (lv_at hl 0 rfl) ?_
    refine va_get (D := (dC, dI)) (ci := 0) (v := .ref av) (C := zR_P) (T := zF_P) (N := 5) hx hb htz zi_P hown hK hP 3 rfl rfl 2 (by decide) (htz _ zq_38) (fun _ h9 => h9) rfl zd_P_change_21 ?_
    refine lv_iload_n hx hb zd_P_change_24 rfl (lv_at hl 1 rfl) ?_
    refine z_lald hx hb hK hP 1 1 rfl rfl (j := j) (by omega) (by decide) zd_P_change_25 ?_
    refine lv_lload_n hx hb zd_P_change_26 rfl (lv_at hl 3 rfl) ?_
    refine W.lcmp hx hb zd_P_change_27 ?_
    refine lv_if_ne (tgt := 42) hx hb zd_P_change_28 (by decide) (fun c3_ => ?_) (fun c3_ => ?_)
    · have hc9 : ¬ (wk j = w ∧ wo j = v ∧ se j = b) := fun h => c3_ ((lg_cmp_eq _ _).mpr h.2.1)
      refine lv_iconst (v := (nI 1)) hx hb zd_P_change_42 (by decide) ?_
      refine lv_goto (tgt := 47) hx hb zd_P_change_43 (by decide) ?_
      refine lv_istore (lv' := [(6, .int (nI 1)), (0, .ref hp), (1, .int (nI j)), (2, .int w), (3, .long v), (5, .int b)]) hx hb zd_P_change_47 hl (by decide) rfl (fun ls hl => ?_)
      refine lv_aload_n hx hb zd_P_change_49 rfl (lv_at hl 1 rfl) ?_
      refine va_get (D := (dC, dI)) (ci := 0) (v := .ref aw) (C := zR_P) (T := zF_P) (N := 5) hx hb htz zi_P hown hK hP 3 rfl rfl 1 (by decide) (htz _ zq_37) (fun _ h9 => h9) rfl zd_P_change_50 ?_
      refine lv_iload_n hx hb zd_P_change_53 rfl (lv_at hl 2 rfl) ?_
      refine lv_iload_n hx hb zd_P_change_54 rfl (lv_at hl 3 rfl) ?_
      refine z_iast hx hb hK hP hD hS 0 0 rfl rfl (j := j) (by omega) (by decide) zd_P_change_55 (fun H locs hP hD hS => ?_)
      have hP : va_P (dC, dI) zcl [(aw, .inl (cI, 16, .inl (upd wk j w))), (av, .inl (cJ, 16, .inr (.inl wo))), (az, .inl (cZ, 16, .inl se)), (hp, .inr (0, [.int (nI n), .ref aw, .ref av, .ref az, .ref af]))] H := hP
      have hD : va_D A [(aw, .inl (cI, 16, .inl (upd wk j w))), (av, .inl (cJ, 16, .inr (.inl wo))), (az, .inl (cZ, 16, .inl se)), (hp, .inr (0, [.int (nI n), .ref aw, .ref av, .ref az, .ref af]))] := hD
      refine lv_aload_n hx hb zd_P_change_56 rfl (lv_at hl 1 rfl) ?_
      refine va_get (D := (dC, dI)) (ci := 0) (v := .ref av) (C := zR_P) (T := zF_P) (N := 5) hx hb htz zi_P hown hK hP 3 rfl rfl 2 (by decide) (htz _ zq_38) (fun _ h9 => h9) rfl zd_P_change_57 ?_
      refine lv_iload_n hx hb zd_P_change_60 rfl (lv_at hl 2 rfl) ?_
      refine lv_lload_n hx hb zd_P_change_61 rfl (lv_at hl 4 rfl) ?_
      refine z_last hx hb hK hP hD hS 1 1 rfl rfl (j := j) (by omega) (by decide) zd_P_change_62 (fun H locs hP hD hS => ?_)
      have hP : va_P (dC, dI) zcl [(aw, .inl (cI, 16, .inl (upd wk j w))), (av, .inl (cJ, 16, .inr (.inl (vp_updL wo j v)))), (az, .inl (cZ, 16, .inl se)), (hp, .inr (0, [.int (nI n), .ref aw, .ref av, .ref az, .ref af]))] H := hP
      have hD : va_D A [(aw, .inl (cI, 16, .inl (upd wk j w))), (av, .inl (cJ, 16, .inr (.inl (vp_updL wo j v)))), (az, .inl (cZ, 16, .inl se)), (hp, .inr (0, [.int (nI n), .ref aw, .ref av, .ref az, .ref af]))] := hD
      refine lv_aload_n hx hb zd_P_change_63 rfl (lv_at hl 1 rfl) ?_
      refine va_get (D := (dC, dI)) (ci := 0) (v := .ref az) (C := zR_P) (T := zF_P) (N := 5) hx hb htz zi_P hown hK hP 3 rfl rfl 3 (by decide) (htz _ zq_39) (fun _ h9 => h9) rfl zd_P_change_64 ?_
      refine lv_iload_n hx hb zd_P_change_67 rfl (lv_at hl 2 rfl) ?_
      refine lv_iload hx hb zd_P_change_68 (lv_at hl 5 rfl) ?_
      refine z_zast hx hb hK hP hD hS 2 2 rfl rfl (j := j) (by omega) (by decide) hbb zd_P_change_70 (fun H locs hP hD hS => ?_)
      have hP : va_P (dC, dI) zcl [(aw, .inl (cI, 16, .inl (upd wk j w))), (av, .inl (cJ, 16, .inr (.inl (vp_updL wo j v)))), (az, .inl (cZ, 16, .inl (upd se j b))), (hp, .inr (0, [.int (nI n), .ref aw, .ref av, .ref az, .ref af]))] H := hP
      have hD : va_D A [(aw, .inl (cI, 16, .inl (upd wk j w))), (av, .inl (cJ, 16, .inr (.inl (vp_updL wo j v)))), (az, .inl (cZ, 16, .inl (upd se j b))), (hp, .inr (0, [.int (nI n), .ref aw, .ref av, .ref az, .ref af]))] := hD
      refine lv_iload hx hb zd_P_change_71 (lv_at hl 0 rfl) ?_
      have hP := hP.sub (ws' := [(hp, .inr (0, [.int (nI n), .ref aw, .ref av, .ref az, .ref af])), (aw, .inl (cI, 16, .inl (upd wk j w))), (av, .inl (cJ, 16, .inr (.inl (vp_updL wo j v)))), (az, .inl (cZ, 16, .inl (upd se j b)))]) [3, 0, 1, 2] rfl
      have hD := hD.sub (ws' := [(hp, .inr (0, [.int (nI n), .ref aw, .ref av, .ref az, .ref af])), (aw, .inl (cI, 16, .inl (upd wk j w))), (av, .inl (cJ, 16, .inr (.inl (vp_updL wo j v)))), (az, .inl (cZ, 16, .inl (upd se j b)))]) [3, 0, 1, 2] (by decide) rfl
      exact z_zret hx hb hr hlocks hP hK hD hS zd_P_change_73 (by decide) (by decide) rfl (Or.inl ⟨rfl, rfl, hc9⟩)
    · have h2_ := (lg_cmp_eq _ _).mp c3_
      refine lv_aload_n hx hb zd_P_change_31 rfl (lv_at hl 0 rfl) ?_
      refine va_get (D := (dC, dI)) (ci := 0) (v := .ref az) (C := zR_P) (T := zF_P) (N := 5) hx hb htz zi_P hown hK hP 3 rfl rfl 3 (by decide) (htz _ zq_39) (fun _ h9 => h9) rfl zd_P_change_32 ?_
      refine lv_iload_n hx hb zd_P_change_35 rfl (lv_at hl 1 rfl) ?_
      refine z_zald hx hb hK hP 2 2 rfl rfl (j := j) (by omega) (by decide) zd_P_change_36 ?_
      refine lv_iload hx hb zd_P_change_37 (lv_at hl 4 rfl) ?_
      refine lv_icmp_eq (tgt := 46) hx hb zd_P_change_39 (by decide) (fun c4_ => ?_) (fun c4_ => ?_)
      · have hc9 : wk j = w ∧ wo j = v ∧ se j = b := ⟨h1_, h2_, c4_⟩
        refine lv_iconst (v := (nI 0)) hx hb zd_P_change_46 (by decide) ?_
        refine lv_istore (lv' := [(6, .int (nI 0)), (0, .ref hp), (1, .int (nI j)), (2, .int w), (3, .long v), (5, .int b)]) hx hb zd_P_change_47 hl (by decide) rfl (fun ls hl => ?_)
        refine lv_aload_n hx hb zd_P_change_49 rfl (lv_at hl 1 rfl) ?_
        refine va_get (D := (dC, dI)) (ci := 0) (v := .ref aw) (C := zR_P) (T := zF_P) (N := 5) hx hb htz zi_P hown hK hP 3 rfl rfl 1 (by decide) (htz _ zq_37) (fun _ h9 => h9) rfl zd_P_change_50 ?_
        refine lv_iload_n hx hb zd_P_change_53 rfl (lv_at hl 2 rfl) ?_
        refine lv_iload_n hx hb zd_P_change_54 rfl (lv_at hl 3 rfl) ?_
        refine z_iast hx hb hK hP hD hS 0 0 rfl rfl (j := j) (by omega) (by decide) zd_P_change_55 (fun H locs hP hD hS => ?_)
        have hP : va_P (dC, dI) zcl [(aw, .inl (cI, 16, .inl (upd wk j w))), (av, .inl (cJ, 16, .inr (.inl wo))), (az, .inl (cZ, 16, .inl se)), (hp, .inr (0, [.int (nI n), .ref aw, .ref av, .ref az, .ref af]))] H := hP
        have hD : va_D A [(aw, .inl (cI, 16, .inl (upd wk j w))), (av, .inl (cJ, 16, .inr (.inl wo))), (az, .inl (cZ, 16, .inl se)), (hp, .inr (0, [.int (nI n), .ref aw, .ref av, .ref az, .ref af]))] := hD
        refine lv_aload_n hx hb zd_P_change_56 rfl (lv_at hl 1 rfl) ?_
        refine va_get (D := (dC, dI)) (ci := 0) (v := .ref av) (C := zR_P) (T := zF_P) (N := 5) hx hb htz zi_P hown hK hP 3 rfl rfl 2 (by decide) (htz _ zq_38) (fun _ h9 => h9) rfl zd_P_change_57 ?_
        refine lv_iload_n hx hb zd_P_change_60 rfl (lv_at hl 2 rfl) ?_
        refine lv_lload_n hx hb zd_P_change_61 rfl (lv_at hl 4 rfl) ?_
        refine z_last hx hb hK hP hD hS 1 1 rfl rfl (j := j) (by omega) (by decide) zd_P_change_62 (fun H locs hP hD hS => ?_)
        have hP : va_P (dC, dI) zcl [(aw, .inl (cI, 16, .inl (upd wk j w))), (av, .inl (cJ, 16, .inr (.inl (vp_updL wo j v)))), (az, .inl (cZ, 16, .inl se)), (hp, .inr (0, [.int (nI n), .ref aw, .ref av, .ref az, .ref af]))] H := hP
        have hD : va_D A [(aw, .inl (cI, 16, .inl (upd wk j w))), (av, .inl (cJ, 16, .inr (.inl (vp_updL wo j v)))), (az, .inl (cZ, 16, .inl se)), (hp, .inr (0, [.int (nI n), .ref aw, .ref av, .ref az, .ref af]))] := hD
        refine lv_aload_n hx hb zd_P_change_63 rfl (lv_at hl 1 rfl) ?_
        refine va_get (D := (dC, dI)) (ci := 0) (v := .ref az) (C := zR_P) (T := zF_P) (N := 5) hx hb htz zi_P hown hK hP 3 rfl rfl 3 (by decide) (htz _ zq_39) (fun _ h9 => h9) rfl zd_P_change_64 ?_
        refine lv_iload_n hx hb zd_P_change_67 rfl (lv_at hl 2 rfl) ?_
        refine lv_iload hx hb zd_P_change_68 (lv_at hl 5 rfl) ?_
        refine z_zast hx hb hK hP hD hS 2 2 rfl rfl (j := j) (by omega) (by decide) hbb zd_P_change_70 (fun H locs hP hD hS => ?_)
        have hP : va_P (dC, dI) zcl [(aw, .inl (cI, 16, .inl (upd wk j w))), (av, .inl (cJ, 16, .inr (.inl (vp_updL wo j v)))), (az, .inl (cZ, 16, .inl (upd se j b))), (hp, .inr (0, [.int (nI n), .ref aw, .ref av, .ref az, .ref af]))] H := hP
        have hD : va_D A [(aw, .inl (cI, 16, .inl (upd wk j w))), (av, .inl (cJ, 16, .inr (.inl (vp_updL wo j v)))), (az, .inl (cZ, 16, .inl (upd se j b))), (hp, .inr (0, [.int (nI n), .ref aw, .ref av, .ref az, .ref af]))] := hD
        refine lv_iload hx hb zd_P_change_71 (lv_at hl 0 rfl) ?_
        have hP := hP.sub (ws' := [(hp, .inr (0, [.int (nI n), .ref aw, .ref av, .ref az, .ref af])), (aw, .inl (cI, 16, .inl (upd wk j w))), (av, .inl (cJ, 16, .inr (.inl (vp_updL wo j v)))), (az, .inl (cZ, 16, .inl (upd se j b)))]) [3, 0, 1, 2] rfl
        have hD := hD.sub (ws' := [(hp, .inr (0, [.int (nI n), .ref aw, .ref av, .ref az, .ref af])), (aw, .inl (cI, 16, .inl (upd wk j w))), (av, .inl (cJ, 16, .inr (.inl (vp_updL wo j v)))), (az, .inl (cZ, 16, .inl (upd se j b)))]) [3, 0, 1, 2] (by decide) rfl
        exact z_zret hx hb hr hlocks hP hK hD hS zd_P_change_73 (by decide) (by decide) rfl (Or.inr ⟨rfl, rfl, hc9⟩)
      · have hc9 : ¬ (wk j = w ∧ wo j = v ∧ se j = b) := fun h => c4_ h.2.2
        refine lv_iconst (v := (nI 1)) hx hb zd_P_change_42 (by decide) ?_
        refine lv_goto (tgt := 47) hx hb zd_P_change_43 (by decide) ?_
        refine lv_istore (lv' := [(6, .int (nI 1)), (0, .ref hp), (1, .int (nI j)), (2, .int w), (3, .long v), (5, .int b)]) hx hb zd_P_change_47 hl (by decide) rfl (fun ls hl => ?_)
        refine lv_aload_n hx hb zd_P_change_49 rfl (lv_at hl 1 rfl) ?_
        refine va_get (D := (dC, dI)) (ci := 0) (v := .ref aw) (C := zR_P) (T := zF_P) (N := 5) hx hb htz zi_P hown hK hP 3 rfl rfl 1 (by decide) (htz _ zq_37) (fun _ h9 => h9) rfl zd_P_change_50 ?_
        refine lv_iload_n hx hb zd_P_change_53 rfl (lv_at hl 2 rfl) ?_
        refine lv_iload_n hx hb zd_P_change_54 rfl (lv_at hl 3 rfl) ?_
        refine z_iast hx hb hK hP hD hS 0 0 rfl rfl (j := j) (by omega) (by decide) zd_P_change_55 (fun H locs hP hD hS => ?_)
        have hP : va_P (dC, dI) zcl [(aw, .inl (cI, 16, .inl (upd wk j w))), (av, .inl (cJ, 16, .inr (.inl wo))), (az, .inl (cZ, 16, .inl se)), (hp, .inr (0, [.int (nI n), .ref aw, .ref av, .ref az, .ref af]))] H := hP
        have hD : va_D A [(aw, .inl (cI, 16, .inl (upd wk j w))), (av, .inl (cJ, 16, .inr (.inl wo))), (az, .inl (cZ, 16, .inl se)), (hp, .inr (0, [.int (nI n), .ref aw, .ref av, .ref az, .ref af]))] := hD
        refine lv_aload_n hx hb zd_P_change_56 rfl (lv_at hl 1 rfl) ?_
        refine va_get (D := (dC, dI)) (ci := 0) (v := .ref av) (C := zR_P) (T := zF_P) (N := 5) hx hb htz zi_P hown hK hP 3 rfl rfl 2 (by decide) (htz _ zq_38) (fun _ h9 => h9) rfl zd_P_change_57 ?_
        refine lv_iload_n hx hb zd_P_change_60 rfl (lv_at hl 2 rfl) ?_
        refine lv_lload_n hx hb zd_P_change_61 rfl (lv_at hl 4 rfl) ?_
        refine z_last hx hb hK hP hD hS 1 1 rfl rfl (j := j) (by omega) (by decide) zd_P_change_62 (fun H locs hP hD hS => ?_)
        have hP : va_P (dC, dI) zcl [(aw, .inl (cI, 16, .inl (upd wk j w))), (av, .inl (cJ, 16, .inr (.inl (vp_updL wo j v)))), (az, .inl (cZ, 16, .inl se)), (hp, .inr (0, [.int (nI n), .ref aw, .ref av, .ref az, .ref af]))] H := hP
        have hD : va_D A [(aw, .inl (cI, 16, .inl (upd wk j w))), (av, .inl (cJ, 16, .inr (.inl (vp_updL wo j v)))), (az, .inl (cZ, 16, .inl se)), (hp, .inr (0, [.int (nI n), .ref aw, .ref av, .ref az, .ref af]))] := hD
        refine lv_aload_n hx hb zd_P_change_63 rfl (lv_at hl 1 rfl) ?_
        refine va_get (D := (dC, dI)) (ci := 0) (v := .ref az) (C := zR_P) (T := zF_P) (N := 5) hx hb htz zi_P hown hK hP 3 rfl rfl 3 (by decide) (htz _ zq_39) (fun _ h9 => h9) rfl zd_P_change_64 ?_
        refine lv_iload_n hx hb zd_P_change_67 rfl (lv_at hl 2 rfl) ?_
        refine lv_iload hx hb zd_P_change_68 (lv_at hl 5 rfl) ?_
        refine z_zast hx hb hK hP hD hS 2 2 rfl rfl (j := j) (by omega) (by decide) hbb zd_P_change_70 (fun H locs hP hD hS => ?_)
        have hP : va_P (dC, dI) zcl [(aw, .inl (cI, 16, .inl (upd wk j w))), (av, .inl (cJ, 16, .inr (.inl (vp_updL wo j v)))), (az, .inl (cZ, 16, .inl (upd se j b))), (hp, .inr (0, [.int (nI n), .ref aw, .ref av, .ref az, .ref af]))] H := hP
        have hD : va_D A [(aw, .inl (cI, 16, .inl (upd wk j w))), (av, .inl (cJ, 16, .inr (.inl (vp_updL wo j v)))), (az, .inl (cZ, 16, .inl (upd se j b))), (hp, .inr (0, [.int (nI n), .ref aw, .ref av, .ref az, .ref af]))] := hD
        refine lv_iload hx hb zd_P_change_71 (lv_at hl 0 rfl) ?_
        have hP := hP.sub (ws' := [(hp, .inr (0, [.int (nI n), .ref aw, .ref av, .ref az, .ref af])), (aw, .inl (cI, 16, .inl (upd wk j w))), (av, .inl (cJ, 16, .inr (.inl (vp_updL wo j v)))), (az, .inl (cZ, 16, .inl (upd se j b)))]) [3, 0, 1, 2] rfl
        have hD := hD.sub (ws' := [(hp, .inr (0, [.int (nI n), .ref aw, .ref av, .ref az, .ref af])), (aw, .inl (cI, 16, .inl (upd wk j w))), (av, .inl (cJ, 16, .inr (.inl (vp_updL wo j v)))), (az, .inl (cZ, 16, .inl (upd se j b)))]) [3, 0, 1, 2] (by decide) rfl
        exact z_zret hx hb hr hlocks hP hK hD hS zd_P_change_73 (by decide) (by decide) rfl (Or.inl ⟨rfl, rfl, hc9⟩)
set_option maxHeartbeats 4000000 in
set_option maxRecDepth 100000 in
/--  -/
theorem k_Plan_changeFaults_k (l : Launch) (dC : Nat → ClassId) (dI : Nat → Nat → Nat) (cI cJ cZ : ClassId) (hp : Nat) (aw : Nat) (av : Nat) (az : Nat) (af : Nat) (n : Nat) (fl : Nat → Int32) (j : Nat) (w : Int32) (hn : n ≤ 16) (hj : j < n) (sz : Nat) : zMi l zy_P_changeFaults zw_P_changeFaults ({ frames := 1, cells := 0, slots := 0, locals := 21 }) [.ref hp, .int (nI j), .int w] (dC, dI) zcl [(cI, .int), (cJ, .long), (cZ, .boolean)] [(hp, .inr (0, [.int (nI n), .ref aw, .ref av, .ref az, .ref af])), (af, .inl (cI, 16, .inl fl))] sz (fun (r : Int32) (u : va_W) => (r = nI 1 ∧ u = [(hp, .inr (0, [.int (nI n), .ref aw, .ref av, .ref az, .ref af])), (af, .inl (cI, 16, .inl (upd fl j w)))] ∧ ¬ fl j = w) ∨ (r = nI 0 ∧ u = [(hp, .inr (0, [.int (nI n), .ref aw, .ref av, .ref az, .ref af])), (af, .inl (cI, 16, .inl (upd fl j w)))] ∧ fl j = w)) := by
  refine z_ofi (cc := zc_P_changeFaults) (maxL := 4) (ret := (some .boolean)) (by decide) rfl (Nat.le_of_ble_eq_true rfl) ?_
  intro p e s m below meth c A ls hx hb hr hml hown htz hlocks hin hA hP hK hD hS hl
  have hown : s.vm.findClass zR_P = some m.cls := hown
  have hl : lv_has ls 4 [(0, .ref hp), (1, .int (nI j)), (2, .int w)] := hl
  refine lv_aload_n hx hb zd_P_changeFaults_0 rfl (lv_at hl 0 rfl) ?_
  refine lv_iload_n hx hb zd_P_changeFaults_1 rfl (lv_at hl 1 rfl) ?_
  refine z_Vi (As := [.int (nI j)]) (rest := []) (wc := [(hp, .inr (0, [.int (nI n), .ref aw, .ref av, .ref az, .ref af]))]) (wr := [(af, .inl (cI, 16, .inl fl))]) ⟨hx, hb, hml, hown, htz⟩ hK hP hD hS hA (k_Plan_has_k l dC dI cI cJ cZ hp aw av az af n j (by first | assumption | omega) (by first | assumption | omega) s.heap.size) (zcwV 1 htz zq_147 zq_236 zq_145 zq_146 zq_2 (by decide +kernel) ⟨Nat.le_of_ble_eq_true rfl, Nat.le_of_ble_eq_true rfl⟩) 0 0 rfl rfl [0] [1] rfl rfl rfl (by decide) rfl hl.1 rfl (Nat.le_of_ble_eq_true rfl) zd_P_changeFaults_2 ⟨Nat.le_of_ble_eq_true rfl, Nat.le_of_ble_eq_true rfl⟩ (fun r u H locs hw hP hD hS => ?_)
  obtain ⟨rfl, rfl⟩ := hw
  have hP : va_P (dC, dI) zcl [(af, .inl (cI, 16, .inl fl)), (hp, .inr (0, [.int (nI n), .ref aw, .ref av, .ref az, .ref af]))] H := hP
  have hD : va_D A [(af, .inl (cI, 16, .inl fl)), (hp, .inr (0, [.int (nI n), .ref aw, .ref av, .ref az, .ref af]))] := hD
  refine lv_if_ne (tgt := 10) hx hb zd_P_changeFaults_5 (by decide) (fun _ => ?_) (fun c1_ => absurd c1_ (by decide))
  refine lv_aload_n hx hb zd_P_changeFaults_10 rfl (lv_at hl 0 rfl) ?_
  refine va_get (D := (dC, dI)) (ci := 0) (v := .ref af) (C := zR_P) (T := zF_P) (N := 5) hx hb htz zi_P hown hK hP 1 rfl rfl 4 (by decide) (htz _ zq_40) (fun _ h9 => h9) rfl zd_P_changeFaults_11 ?_
  refine lv_iload_n hx hb zd_P_changeFaults_14 rfl (lv_at hl 1 rfl) ?_
  refine z_iald hx hb hK hP 0 0 rfl rfl (j := j) (by omega) (by decide) zd_P_changeFaults_15 ?_
  refine lv_iload_n hx hb zd_P_changeFaults_16 rfl (lv_at hl 2 rfl) ?_
  refine lv_icmp_eq (tgt := 24) hx hb zd_P_changeFaults_17 (by decide) (fun c2_ => ?_) (fun c2_ => ?_)
  · have hc9 := c2_
    refine lv_iconst (v := (nI 0)) hx hb zd_P_changeFaults_24 (by decide) ?_
    refine lv_istore_n (lv' := [(3, .int (nI 0)), (0, .ref hp), (1, .int (nI j)), (2, .int w)]) hx hb zd_P_changeFaults_25 rfl hl (by decide) rfl (fun ls hl => ?_)
    refine lv_aload_n hx hb zd_P_changeFaults_26 rfl (lv_at hl 1 rfl) ?_
    refine va_get (D := (dC, dI)) (ci := 0) (v := .ref af) (C := zR_P) (T := zF_P) (N := 5) hx hb htz zi_P hown hK hP 1 rfl rfl 4 (by decide) (htz _ zq_40) (fun _ h9 => h9) rfl zd_P_changeFaults_27 ?_
    refine lv_iload_n hx hb zd_P_changeFaults_30 rfl (lv_at hl 2 rfl) ?_
    refine lv_iload_n hx hb zd_P_changeFaults_31 rfl (lv_at hl 3 rfl) ?_
    refine z_iast hx hb hK hP hD hS 0 0 rfl rfl (j := j) (by omega) (by decide) zd_P_changeFaults_32 (fun H locs hP hD hS => ?_)
    have hP : va_P (dC, dI) zcl [(af, .inl (cI, 16, .inl (upd fl j w))), (hp, .inr (0, [.int (nI n), .ref aw, .ref av, .ref az, .ref af]))] H := hP
    have hD : va_D A [(af, .inl (cI, 16, .inl (upd fl j w))), (hp, .inr (0, [.int (nI n), .ref aw, .ref av, .ref az, .ref af]))] := hD
    refine lv_iload_n hx hb zd_P_changeFaults_33 rfl (lv_at hl 0 rfl) ?_
    have hP := hP.sub (ws' := [(hp, .inr (0, [.int (nI n), .ref aw, .ref av, .ref az, .ref af])), (af, .inl (cI, 16, .inl (upd fl j w)))]) [1, 0] rfl
    have hD := hD.sub (ws' := [(hp, .inr (0, [.int (nI n), .ref aw, .ref av, .ref az, .ref af])), (af, .inl (cI, 16, .inl (upd fl j w)))]) [1, 0] (by decide) rfl
    exact z_zret hx hb hr hlocks hP hK hD hS zd_P_changeFaults_34 (by decide) (by decide) rfl (Or.inr ⟨rfl, rfl, hc9⟩)
  · have hc9 := c2_
    refine lv_iconst (v := (nI 1)) hx hb zd_P_changeFaults_20 (by decide) ?_
    refine lv_goto (tgt := 25) hx hb zd_P_changeFaults_21 (by decide) ?_
    refine lv_istore_n (lv' := [(3, .int (nI 1)), (0, .ref hp), (1, .int (nI j)), (2, .int w)]) hx hb zd_P_changeFaults_25 rfl hl (by decide) rfl (fun ls hl => ?_)
    refine lv_aload_n hx hb zd_P_changeFaults_26 rfl (lv_at hl 1 rfl) ?_
    refine va_get (D := (dC, dI)) (ci := 0) (v := .ref af) (C := zR_P) (T := zF_P) (N := 5) hx hb htz zi_P hown hK hP 1 rfl rfl 4 (by decide) (htz _ zq_40) (fun _ h9 => h9) rfl zd_P_changeFaults_27 ?_
    refine lv_iload_n hx hb zd_P_changeFaults_30 rfl (lv_at hl 2 rfl) ?_
    refine lv_iload_n hx hb zd_P_changeFaults_31 rfl (lv_at hl 3 rfl) ?_
    refine z_iast hx hb hK hP hD hS 0 0 rfl rfl (j := j) (by omega) (by decide) zd_P_changeFaults_32 (fun H locs hP hD hS => ?_)
    have hP : va_P (dC, dI) zcl [(af, .inl (cI, 16, .inl (upd fl j w))), (hp, .inr (0, [.int (nI n), .ref aw, .ref av, .ref az, .ref af]))] H := hP
    have hD : va_D A [(af, .inl (cI, 16, .inl (upd fl j w))), (hp, .inr (0, [.int (nI n), .ref aw, .ref av, .ref az, .ref af]))] := hD
    refine lv_iload_n hx hb zd_P_changeFaults_33 rfl (lv_at hl 0 rfl) ?_
    have hP := hP.sub (ws' := [(hp, .inr (0, [.int (nI n), .ref aw, .ref av, .ref az, .ref af])), (af, .inl (cI, 16, .inl (upd fl j w)))]) [1, 0] rfl
    have hD := hD.sub (ws' := [(hp, .inr (0, [.int (nI n), .ref aw, .ref av, .ref az, .ref af])), (af, .inl (cI, 16, .inl (upd fl j w)))]) [1, 0] (by decide) rfl
    exact z_zret hx hb hr hlocks hP hK hD hS zd_P_changeFaults_34 (by decide) (by decide) rfl (Or.inl ⟨rfl, rfl, hc9⟩)
end
section
/-- a share that settles and is done -/
def zsd (se dt : ZA) (q : Nat) : Prop := ¬ se q = 0 ∧ 0 < dt q
/-- a share that waits, as the document has it -/
def zwt (se dt hd : ZA) (cr x : Nat) : Prop := dt x = 0 ∧ (∀ w, w < cr → ¬ hd w = nI x) ∧ ∀ q, q < x → ¬ zsd se dt q
theorem z_all_up {P : Nat → Prop} {k : Nat} (h : ∀ q, q < k → ¬ P q) (hk : ¬ P k) : ∀ q, q < k + 1 → ¬ P q := fun q hq => (Nat.lt_or_eq_of_le (Nat.le_of_lt_succ hq)).elim (h q) (fun e => e ▸ hk)
theorem z_ex_up {P : Nat → Prop} {k : Nat} (h : ∃ q, q < k ∧ P q) : ∃ q, q < k + 1 ∧ P q := h.elim (fun q hq => ⟨q, by omega, hq.2⟩)
end
section
set_option maxHeartbeats 4000000 in
set_option maxRecDepth 100000 in
/--  -/
theorem k_Model_thrown (l : Launch) (dC : Nat → ClassId) (dI : Nat → Nat → Nat) (cI cJ cZ : ClassId) (md : Nat) (th : Int32) (n : Nat) (bw : Nat) (bf : Nat) (bv : Nat) (bz : Nat) (kn : Nat) (bsp : Nat) (bdt : Nat) (bdr : Nat) (bhd : Nat) (bmv : Nat) (bod : Nat) (pl : Nat) (cr : Nat) (tk : Nat)  (sz : Nat) : zMi l zy_M_thrown zw_M_thrown ({ frames := 0, cells := 0, slots := 0, locals := 0 }) [.ref md] (dC, dI) zcl [(cI, .int), (cJ, .long), (cZ, .boolean)] [(md, .inr (3, [.int th, .int (nI n), .ref bw, .ref bf, .ref bv, .ref bz, .int (nI kn), .ref bsp, .ref bdt, .ref bdr, .ref bhd, .ref bmv, .ref bod, .int (nI pl), .int (nI cr), .int (nI tk)]))] sz (fun (r : Int32) (u : va_W) => r = th ∧ u = [(md, .inr (3, [.int th, .int (nI n), .ref bw, .ref bf, .ref bv, .ref bz, .int (nI kn), .ref bsp, .ref bdt, .ref bdr, .ref bhd, .ref bmv, .ref bod, .int (nI pl), .int (nI cr), .int (nI tk)]))]) := by
  refine z_ofi (cc := zc_M_thrown) (maxL := 1) (ret := (some .int)) (by decide) rfl (Nat.le_of_ble_eq_true rfl) ?_
  intro p e s m below meth c A ls hx hb hr hml hown htz hlocks hin hA hP hK hD hS hl
  have hown : s.vm.findClass zR_M = some m.cls := hown
  have hl : lv_has ls 1 [(0, .ref md)] := hl
  refine lv_aload_n hx hb zd_M_thrown_0 rfl (lv_at hl 0 rfl) ?_
  refine va_get (D := (dC, dI)) (ci := 3) (v := .int th) (C := zR_M) (T := zF_M) (N := 16) hx hb htz zi_M hown hK hP 0 rfl rfl 0 (by decide) (htz _ zq_459) (fun _ h9 => h9) rfl zd_M_thrown_1 ?_
  exact z_iret hx hb hr hlocks hP hK hD hS zd_M_thrown_4 (by decide) (by decide) ⟨rfl, rfl⟩
set_option maxHeartbeats 4000000 in
set_option maxRecDepth 100000 in
/--  -/
theorem k_Model_fails_0 (l : Launch) (dC : Nat → ClassId) (dI : Nat → Nat → Nat) (cI cJ cZ : ClassId) (md : Nat) (th : Int32) (n : Nat) (bw : Nat) (bf : Nat) (bv : Nat) (bz : Nat) (kn : Nat) (bsp : Nat) (bdt : Nat) (bdr : Nat) (bhd : Nat) (bmv : Nat) (bod : Nat) (pl : Nat) (cr : Nat) (tk : Nat)  (sz : Nat) : zMi l zy_M_fails zw_M_fails ({ frames := 0, cells := 0, slots := 0, locals := 0 }) [.ref md, .int (nI 0), .int (nI 0)] (dC, dI) zcl [(cI, .int), (cJ, .long), (cZ, .boolean)] [(md, .inr (3, [.int th, .int (nI n), .ref bw, .ref bf, .ref bv, .ref bz, .int (nI kn), .ref bsp, .ref bdt, .ref bdr, .ref bhd, .ref bmv, .ref bod, .int (nI pl), .int (nI cr), .int (nI tk)]))] sz (fun (r : Int32) (u : va_W) => r = nI 0 ∧ u = [(md, .inr (3, [.int (nI 0), .int (nI n), .ref bw, .ref bf, .ref bv, .ref bz, .int (nI kn), .ref bsp, .ref bdt, .ref bdr, .ref bhd, .ref bmv, .ref bod, .int (nI pl), .int (nI cr), .int (nI tk)]))]) := by
  refine z_ofi (cc := zc_M_fails) (maxL := 3) (ret := (some .boolean)) (by decide) rfl (Nat.le_of_ble_eq_true rfl) ?_
  intro p e s m below meth c A ls hx hb hr hml hown htz hlocks hin hA hP hK hD hS hl
  have hown : s.vm.findClass zR_M = some m.cls := hown
  have hl : lv_has ls 3 [(0, .ref md), (1, .int (nI 0)), (2, .int (nI 0))] := hl
  refine lv_aload_n hx hb zd_M_fails_0 rfl (lv_at hl 0 rfl) ?_
  refine lv_iload_n hx hb zd_M_fails_1 rfl (lv_at hl 1 rfl) ?_
  refine lv_if_eq (tgt := 9) hx hb zd_M_fails_2 (by decide) (fun _ => ?_) (fun c1_ => absurd (by decide) c1_)
  refine lv_iload_n hx hb zd_M_fails_9 rfl (lv_at hl 2 rfl) ?_
  refine lv_if_eq (tgt := 17) hx hb zd_M_fails_10 (by decide) (fun _ => ?_) (fun c2_ => absurd (by decide) c2_)
  refine lv_iconst (v := (nI 0)) hx hb zd_M_fails_17 (by decide) ?_
  refine va_put (D := (dC, dI)) (ci := 3) (v := .int (nI 0)) (ty := .int) (C := zR_M) (T := zF_M) (N := 16) hx hb htz zi_M zt_M zt_M_ok zn_M hown hK hP hD hS 0 rfl rfl 0 (by decide) (htz _ zq_459) (fun _ h9 => h9) rfl (by decide +kernel) rfl rfl (Nat.le_of_ble_eq_true rfl) zd_M_fails_18 (fun H locs hP hD hS => ?_)
  have hP : va_P (dC, dI) zcl [(md, .inr (3, [.int (nI 0), .int (nI n), .ref bw, .ref bf, .ref bv, .ref bz, .int (nI kn), .ref bsp, .ref bdt, .ref bdr, .ref bhd, .ref bmv, .ref bod, .int (nI pl), .int (nI cr), .int (nI tk)]))] H := hP
  have hD : va_D A [(md, .inr (3, [.int (nI 0), .int (nI n), .ref bw, .ref bf, .ref bv, .ref bz, .int (nI kn), .ref bsp, .ref bdt, .ref bdr, .ref bhd, .ref bmv, .ref bod, .int (nI pl), .int (nI cr), .int (nI tk)]))] := hD
  refine lv_aload_n hx hb zd_M_fails_21 rfl (lv_at hl 0 rfl) ?_
  refine va_get (D := (dC, dI)) (ci := 3) (v := .int (nI 0)) (C := zR_M) (T := zF_M) (N := 16) hx hb htz zi_M hown hK hP 0 rfl rfl 0 (by decide) (htz _ zq_459) (fun _ h9 => h9) rfl zd_M_fails_22 ?_
  refine lv_if_le (tgt := 32) hx hb zd_M_fails_25 (by decide) (fun _ => ?_) (fun c3_ => absurd (by decide) c3_)
  refine lv_iconst (v := (nI 0)) hx hb zd_M_fails_32 (by decide) ?_
  exact z_zret hx hb hr hlocks hP hK hD hS zd_M_fails_33 (by decide) (by decide) rfl ⟨rfl, rfl⟩
set_option maxHeartbeats 4000000 in
set_option maxRecDepth 100000 in
/--  -/
theorem k_Model_fails_1 (l : Launch) (dC : Nat → ClassId) (dI : Nat → Nat → Nat) (cI cJ cZ : ClassId) (md : Nat) (th : Int32) (n : Nat) (bw : Nat) (bf : Nat) (bv : Nat) (bz : Nat) (kn : Nat) (bsp : Nat) (bdt : Nat) (bdr : Nat) (bhd : Nat) (bmv : Nat) (bod : Nat) (pl : Nat) (cr : Nat) (tk : Nat) (bb : Int32)  (sz : Nat) : zMi l zy_M_fails zw_M_fails ({ frames := 0, cells := 0, slots := 0, locals := 0 }) [.ref md, .int (nI 1), .int bb] (dC, dI) zcl [(cI, .int), (cJ, .long), (cZ, .boolean)] [(md, .inr (3, [.int th, .int (nI n), .ref bw, .ref bf, .ref bv, .ref bz, .int (nI kn), .ref bsp, .ref bdt, .ref bdr, .ref bhd, .ref bmv, .ref bod, .int (nI pl), .int (nI cr), .int (nI tk)]))] sz (fun (r : Int32) (u : va_W) => r = nI 1 ∧ u = [(md, .inr (3, [.int (nI 1), .int (nI n), .ref bw, .ref bf, .ref bv, .ref bz, .int (nI kn), .ref bsp, .ref bdt, .ref bdr, .ref bhd, .ref bmv, .ref bod, .int (nI pl), .int (nI cr), .int (nI tk)]))]) := by
  refine z_ofi (cc := zc_M_fails) (maxL := 3) (ret := (some .boolean)) (by decide) rfl (Nat.le_of_ble_eq_true rfl) ?_
  intro p e s m below meth c A ls hx hb hr hml hown htz hlocks hin hA hP hK hD hS hl
  have hown : s.vm.findClass zR_M = some m.cls := hown
  have hl : lv_has ls 3 [(0, .ref md), (1, .int (nI 1)), (2, .int bb)] := hl
  refine lv_aload_n hx hb zd_M_fails_0 rfl (lv_at hl 0 rfl) ?_
  refine lv_iload_n hx hb zd_M_fails_1 rfl (lv_at hl 1 rfl) ?_
  refine lv_if_eq (tgt := 9) hx hb zd_M_fails_2 (by decide) (fun c1_ => absurd c1_ (by decide)) (fun _ => ?_)
  refine lv_iconst (v := (nI 1)) hx hb zd_M_fails_5 (by decide) ?_
  refine lv_goto (tgt := 18) hx hb zd_M_fails_6 (by decide) ?_
  refine va_put (D := (dC, dI)) (ci := 3) (v := .int (nI 1)) (ty := .int) (C := zR_M) (T := zF_M) (N := 16) hx hb htz zi_M zt_M zt_M_ok zn_M hown hK hP hD hS 0 rfl rfl 0 (by decide) (htz _ zq_459) (fun _ h9 => h9) rfl (by decide +kernel) rfl rfl (Nat.le_of_ble_eq_true rfl) zd_M_fails_18 (fun H locs hP hD hS => ?_)
  have hP : va_P (dC, dI) zcl [(md, .inr (3, [.int (nI 1), .int (nI n), .ref bw, .ref bf, .ref bv, .ref bz, .int (nI kn), .ref bsp, .ref bdt, .ref bdr, .ref bhd, .ref bmv, .ref bod, .int (nI pl), .int (nI cr), .int (nI tk)]))] H := hP
  have hD : va_D A [(md, .inr (3, [.int (nI 1), .int (nI n), .ref bw, .ref bf, .ref bv, .ref bz, .int (nI kn), .ref bsp, .ref bdt, .ref bdr, .ref bhd, .ref bmv, .ref bod, .int (nI pl), .int (nI cr), .int (nI tk)]))] := hD
  refine lv_aload_n hx hb zd_M_fails_21 rfl (lv_at hl 0 rfl) ?_
  refine va_get (D := (dC, dI)) (ci := 3) (v := .int (nI 1)) (C := zR_M) (T := zF_M) (N := 16) hx hb htz zi_M hown hK hP 0 rfl rfl 0 (by decide) (htz _ zq_459) (fun _ h9 => h9) rfl zd_M_fails_22 ?_
  refine lv_if_le (tgt := 32) hx hb zd_M_fails_25 (by decide) (fun c2_ => absurd c2_ (by decide)) (fun _ => ?_)
  refine lv_iconst (v := (nI 1)) hx hb zd_M_fails_28 (by decide) ?_
  refine lv_goto (tgt := 33) hx hb zd_M_fails_29 (by decide) ?_
  exact z_zret hx hb hr hlocks hP hK hD hS zd_M_fails_33 (by decide) (by decide) rfl ⟨rfl, rfl⟩
set_option maxHeartbeats 4000000 in
set_option maxRecDepth 100000 in
/--  -/
theorem k_Model_fails_2 (l : Launch) (dC : Nat → ClassId) (dI : Nat → Nat → Nat) (cI cJ cZ : ClassId) (md : Nat) (th : Int32) (n : Nat) (bw : Nat) (bf : Nat) (bv : Nat) (bz : Nat) (kn : Nat) (bsp : Nat) (bdt : Nat) (bdr : Nat) (bhd : Nat) (bmv : Nat) (bod : Nat) (pl : Nat) (cr : Nat) (tk : Nat)  (sz : Nat) : zMi l zy_M_fails zw_M_fails ({ frames := 0, cells := 0, slots := 0, locals := 0 }) [.ref md, .int (nI 0), .int (nI 1)] (dC, dI) zcl [(cI, .int), (cJ, .long), (cZ, .boolean)] [(md, .inr (3, [.int th, .int (nI n), .ref bw, .ref bf, .ref bv, .ref bz, .int (nI kn), .ref bsp, .ref bdt, .ref bdr, .ref bhd, .ref bmv, .ref bod, .int (nI pl), .int (nI cr), .int (nI tk)]))] sz (fun (r : Int32) (u : va_W) => r = nI 1 ∧ u = [(md, .inr (3, [.int (nI 2), .int (nI n), .ref bw, .ref bf, .ref bv, .ref bz, .int (nI kn), .ref bsp, .ref bdt, .ref bdr, .ref bhd, .ref bmv, .ref bod, .int (nI pl), .int (nI cr), .int (nI tk)]))]) := by
  refine z_ofi (cc := zc_M_fails) (maxL := 3) (ret := (some .boolean)) (by decide) rfl (Nat.le_of_ble_eq_true rfl) ?_
  intro p e s m below meth c A ls hx hb hr hml hown htz hlocks hin hA hP hK hD hS hl
  have hown : s.vm.findClass zR_M = some m.cls := hown
  have hl : lv_has ls 3 [(0, .ref md), (1, .int (nI 0)), (2, .int (nI 1))] := hl
  refine lv_aload_n hx hb zd_M_fails_0 rfl (lv_at hl 0 rfl) ?_
  refine lv_iload_n hx hb zd_M_fails_1 rfl (lv_at hl 1 rfl) ?_
  refine lv_if_eq (tgt := 9) hx hb zd_M_fails_2 (by decide) (fun _ => ?_) (fun c1_ => absurd (by decide) c1_)
  refine lv_iload_n hx hb zd_M_fails_9 rfl (lv_at hl 2 rfl) ?_
  refine lv_if_eq (tgt := 17) hx hb zd_M_fails_10 (by decide) (fun c2_ => absurd c2_ (by decide)) (fun _ => ?_)
  refine lv_iconst (v := (nI 2)) hx hb zd_M_fails_13 (by decide) ?_
  refine lv_goto (tgt := 18) hx hb zd_M_fails_14 (by decide) ?_
  refine va_put (D := (dC, dI)) (ci := 3) (v := .int (nI 2)) (ty := .int) (C := zR_M) (T := zF_M) (N := 16) hx hb htz zi_M zt_M zt_M_ok zn_M hown hK hP hD hS 0 rfl rfl 0 (by decide) (htz _ zq_459) (fun _ h9 => h9) rfl (by decide +kernel) rfl rfl (Nat.le_of_ble_eq_true rfl) zd_M_fails_18 (fun H locs hP hD hS => ?_)
  have hP : va_P (dC, dI) zcl [(md, .inr (3, [.int (nI 2), .int (nI n), .ref bw, .ref bf, .ref bv, .ref bz, .int (nI kn), .ref bsp, .ref bdt, .ref bdr, .ref bhd, .ref bmv, .ref bod, .int (nI pl), .int (nI cr), .int (nI tk)]))] H := hP
  have hD : va_D A [(md, .inr (3, [.int (nI 2), .int (nI n), .ref bw, .ref bf, .ref bv, .ref bz, .int (nI kn), .ref bsp, .ref bdt, .ref bdr, .ref bhd, .ref bmv, .ref bod, .int (nI pl), .int (nI cr), .int (nI tk)]))] := hD
  refine lv_aload_n hx hb zd_M_fails_21 rfl (lv_at hl 0 rfl) ?_
  refine va_get (D := (dC, dI)) (ci := 3) (v := .int (nI 2)) (C := zR_M) (T := zF_M) (N := 16) hx hb htz zi_M hown hK hP 0 rfl rfl 0 (by decide) (htz _ zq_459) (fun _ h9 => h9) rfl zd_M_fails_22 ?_
  refine lv_if_le (tgt := 32) hx hb zd_M_fails_25 (by decide) (fun c3_ => absurd c3_ (by decide)) (fun _ => ?_)
  refine lv_iconst (v := (nI 1)) hx hb zd_M_fails_28 (by decide) ?_
  refine lv_goto (tgt := 33) hx hb zd_M_fails_29 (by decide) ?_
  exact z_zret hx hb hr hlocks hP hK hD hS zd_M_fails_33 (by decide) (by decide) rfl ⟨rfl, rfl⟩
set_option maxHeartbeats 4000000 in
set_option maxRecDepth 100000 in
/--  -/
theorem k_Model_isShare (l : Launch) (dC : Nat → ClassId) (dI : Nat → Nat → Nat) (cI cJ cZ : ClassId) (md : Nat) (th : Int32) (n : Nat) (bw : Nat) (bf : Nat) (bv : Nat) (bz : Nat) (kn : Nat) (bsp : Nat) (bdt : Nat) (bdr : Nat) (bhd : Nat) (bmv : Nat) (bod : Nat) (pl : Nat) (cr : Nat) (tk : Nat) (sh : Int32) (hn : n ≤ 16) (sz : Nat) : zMi l zy_M_isShare zw_M_isShare ({ frames := 0, cells := 0, slots := 0, locals := 0 }) [.ref md, .int sh] (dC, dI) zcl [(cI, .int), (cJ, .long), (cZ, .boolean)] [(md, .inr (3, [.int th, .int (nI n), .ref bw, .ref bf, .ref bv, .ref bz, .int (nI kn), .ref bsp, .ref bdt, .ref bdr, .ref bhd, .ref bmv, .ref bod, .int (nI pl), .int (nI cr), .int (nI tk)]))] sz (fun (r : Int32) (u : va_W) => (∃ (j : Nat), r = nI 1 ∧ u = [(md, .inr (3, [.int th, .int (nI n), .ref bw, .ref bf, .ref bv, .ref bz, .int (nI kn), .ref bsp, .ref bdt, .ref bdr, .ref bhd, .ref bmv, .ref bod, .int (nI pl), .int (nI cr), .int (nI tk)]))] ∧ j < n ∧ sh = nI j) ∨ (r = nI 0 ∧ u = [(md, .inr (3, [.int th, .int (nI n), .ref bw, .ref bf, .ref bv, .ref bz, .int (nI kn), .ref bsp, .ref bdt, .ref bdr, .ref bhd, .ref bmv, .ref bod, .int (nI pl), .int (nI cr), .int (nI tk)]))] ∧ (∀ j, j < n → sh ≠ nI j))) := by
  refine z_ofi (cc := zc_M_isShare) (maxL := 2) (ret := (some .boolean)) (by decide) rfl (Nat.le_of_ble_eq_true rfl) ?_
  intro p e s m below meth c A ls hx hb hr hml hown htz hlocks hin hA hP hK hD hS hl
  have hown : s.vm.findClass zR_M = some m.cls := hown
  have hl : lv_has ls 2 [(0, .ref md), (1, .int sh)] := hl
  refine lv_iload_n hx hb zd_M_isShare_0 rfl (lv_at hl 1 rfl) ?_
  refine lv_if_lt (tgt := 16) hx hb zd_M_isShare_1 (by decide) (fun c1_ => ?_) (fun c1_ => ?_)
  · have hno9 := z_neg (n := n) (by omega) c1_
    refine lv_iconst (v := (nI 0)) hx hb zd_M_isShare_16 (by decide) ?_
    exact z_zret hx hb hr hlocks hP hK hD hS zd_M_isShare_17 (by decide) (by decide) rfl (Or.inr ⟨rfl, rfl, hno9⟩)
  · have h0_ := c1_
    refine lv_iload_n hx hb zd_M_isShare_4 rfl (lv_at hl 1 rfl) ?_
    refine lv_aload_n hx hb zd_M_isShare_5 rfl (lv_at hl 0 rfl) ?_
    refine va_get (D := (dC, dI)) (ci := 3) (v := .int (nI n)) (C := zR_M) (T := zF_M) (N := 16) hx hb htz zi_M hown hK hP 0 rfl rfl 1 (by decide) (htz _ zq_460) (fun _ h9 => h9) rfl zd_M_isShare_6 ?_
    refine lv_icmp_ge (tgt := 16) hx hb zd_M_isShare_9 (by decide) (fun c2_ => ?_) (fun c2_ => ?_)
    · have hno9 := z_big (n := n) (by omega) c2_
      refine lv_iconst (v := (nI 0)) hx hb zd_M_isShare_16 (by decide) ?_
      exact z_zret hx hb hr hlocks hP hK hD hS zd_M_isShare_17 (by decide) (by decide) rfl (Or.inr ⟨rfl, rfl, hno9⟩)
    · obtain ⟨j9, hj9, ej9⟩ := z_has (n := n) (by omega) h0_ c2_
      refine lv_iconst (v := (nI 1)) hx hb zd_M_isShare_12 (by decide) ?_
      refine lv_goto (tgt := 17) hx hb zd_M_isShare_13 (by decide) ?_
      exact z_zret hx hb hr hlocks hP hK hD hS zd_M_isShare_17 (by decide) (by decide) rfl (Or.inl ⟨j9, rfl, rfl, hj9, ej9⟩)
set_option maxHeartbeats 4000000 in
set_option maxRecDepth 100000 in
/--  -/
theorem k_Model_isBehind_k (l : Launch) (dC : Nat → ClassId) (dI : Nat → Nat → Nat) (cI cJ cZ : ClassId) (md : Nat) (th : Int32) (n : Nat) (bw : Nat) (bf : Nat) (bv : Nat) (bz : Nat) (kn : Nat) (bsp : Nat) (bdt : Nat) (bdr : Nat) (bhd : Nat) (bmv : Nat) (bod : Nat) (pl : Nat) (cr : Nat) (tk : Nat) (se : Nat → Int32) (dt : Nat → Int32) (x : Nat) (hx16 : x ≤ 16) (sz : Nat) : zMi l zy_M_isBehind zw_M_isBehind ({ frames := 0, cells := 0, slots := 0, locals := 0 }) [.ref md, .int (nI x)] (dC, dI) zcl [(cI, .int), (cJ, .long), (cZ, .boolean)] [(md, .inr (3, [.int th, .int (nI n), .ref bw, .ref bf, .ref bv, .ref bz, .int (nI kn), .ref bsp, .ref bdt, .ref bdr, .ref bhd, .ref bmv, .ref bod, .int (nI pl), .int (nI cr), .int (nI tk)])), (bz, .inl (cZ, 16, .inl se)), (bdt, .inl (cI, 16, .inl dt))] sz (fun (r : Int32) (u : va_W) => (r = nI 1 ∧ u = [(md, .inr (3, [.int th, .int (nI n), .ref bw, .ref bf, .ref bv, .ref bz, .int (nI kn), .ref bsp, .ref bdt, .ref bdr, .ref bhd, .ref bmv, .ref bod, .int (nI pl), .int (nI cr), .int (nI tk)])), (bz, .inl (cZ, 16, .inl se)), (bdt, .inl (cI, 16, .inl dt))] ∧ (∃ q, q < x ∧ zsd se dt q)) ∨ (r = nI 0 ∧ u = [(md, .inr (3, [.int th, .int (nI n), .ref bw, .ref bf, .ref bv, .ref bz, .int (nI kn), .ref bsp, .ref bdt, .ref bdr, .ref bhd, .ref bmv, .ref bod, .int (nI pl), .int (nI cr), .int (nI tk)])), (bz, .inl (cZ, 16, .inl se)), (bdt, .inl (cI, 16, .inl dt))] ∧ (∀ q, q < x → ¬ zsd se dt q))) := by
  refine z_ofi (cc := zc_M_isBehind) (maxL := 4) (ret := (some .boolean)) (by decide) rfl (Nat.le_of_ble_eq_true rfl) ?_
  intro p e s m below meth c A ls hx hb hr hml hown htz hlocks hin hA hP hK hD hS hl
  have hown : s.vm.findClass zR_M = some m.cls := hown
  have hl : lv_has ls 4 [(0, .ref md), (1, .int (nI x))] := hl
  refine lv_iconst (v := (nI 0)) hx hb zd_M_isBehind_0 (by decide) ?_
  refine lv_istore_n (lv' := [(2, .int (nI 0)), (0, .ref md), (1, .int (nI x))]) hx hb zd_M_isBehind_1 rfl hl (by decide) rfl (fun ls hl => ?_)
  refine lv_iconst (v := (nI 0)) hx hb zd_M_isBehind_2 (by decide) ?_
  refine lv_istore_n (lv' := [(3, .int (nI 0)), (2, .int (nI 0)), (0, .ref md), (1, .int (nI x))]) hx hb zd_M_isBehind_3 rfl hl (by decide) rfl (fun ls hl => ?_)
  have lp4 : ∀ (fuel : Nat) (k : Nat) (b : Nat) (H : Heap) (locs : List Loc) (ls : Array Slot), (k ≤ x) → ((b = 1 ∧ ∃ q, q < k ∧ zsd se dt q) ∨ (b = 0 ∧ ∀ q, q < k → ¬ zsd se dt q)) → x - k < fuel → va_P (dC, dI) zcl [(md, .inr (3, [.int th, .int (nI n), .ref bw, .ref bf, .ref bv, .ref bz, .int (nI kn), .ref bsp, .ref bdt, .ref bdr, .ref bhd, .ref bmv, .ref bod, .int (nI pl), .int (nI cr), .int (nI tk)])), (bz, .inl (cZ, 16, .inl se)), (bdt, .inl (cI, 16, .inl dt))] H → va_D A [(md, .inr (3, [.int th, .int (nI n), .ref bw, .ref bf, .ref bv, .ref bz, .int (nI kn), .ref bsp, .ref bdt, .ref bdr, .ref bhd, .ref bmv, .ref bod, .int (nI pl), .int (nI cr), .int (nI tk)])), (bz, .inl (cZ, 16, .inl se)), (bdt, .inl (cI, 16, .inl dt))] → va_S A s.heap H locs → lv_has ls 4 [(3, .int (nI k)), (2, .int (nI b)), (0, .ref md), (1, .int (nI x))] → W p l e ({ frames := 0, cells := 0, slots := 0, locals := 0 } : Room) s m [.ref md, .int (nI x)].toArray below meth c H locs 0 0 (MQ below (va_Qi (fun (r : Int32) (u : va_W) => (r = nI 1 ∧ u = [(md, .inr (3, [.int th, .int (nI n), .ref bw, .ref bf, .ref bv, .ref bz, .int (nI kn), .ref bsp, .ref bdt, .ref bdr, .ref bhd, .ref bmv, .ref bod, .int (nI pl), .int (nI cr), .int (nI tk)])), (bz, .inl (cZ, 16, .inl se)), (bdt, .inl (cI, 16, .inl dt))] ∧ (∃ q, q < x ∧ zsd se dt q)) ∨ (r = nI 0 ∧ u = [(md, .inr (3, [.int th, .int (nI n), .ref bw, .ref bf, .ref bv, .ref bz, .int (nI kn), .ref bsp, .ref bdt, .ref bdr, .ref bhd, .ref bmv, .ref bod, .int (nI pl), .int (nI cr), .int (nI tk)])), (bz, .inl (cZ, 16, .inl se)), (bdt, .inl (cI, 16, .inl dt))] ∧ (∀ q, q < x → ¬ zsd se dt q))) (zAt (dC, dI) zcl [(cI, .int), (cJ, .long), (cZ, .boolean)] A) A) [.ref md, .int (nI x)].toArray s 0 0 A) (F0 m 4 ls []) := by
    intro fuel
    induction fuel with
    | zero => intro k b H locs ls hk hmk hf; exact absurd hf (Nat.not_lt_zero _)
    | succ fuel ih =>
      intro k b H locs ls hk hmk hf hP hD hS hl
      refine lv_iload_n hx hb zd_M_isBehind_4 rfl (lv_at hl 0 rfl) ?_
      refine lv_iload_n hx hb zd_M_isBehind_5 rfl (lv_at hl 3 rfl) ?_
      refine lv_icmp_ge (tgt := 43) hx hb zd_M_isBehind_6 (by decide) (fun c1_ => ?_) (fun c1_ => ?_)
      · have hk2 : k = x := Nat.le_antisymm hk (Nat.le_of_not_lt (fun h => nI_ge h (by omega) c1_))
        rw [hk2] at hmk
        rcases hmk with ⟨rfl, hE⟩ | ⟨rfl, hN⟩
        · have hP : va_P (dC, dI) zcl [(md, .inr (3, [.int th, .int (nI n), .ref bw, .ref bf, .ref bv, .ref bz, .int (nI kn), .ref bsp, .ref bdt, .ref bdr, .ref bhd, .ref bmv, .ref bod, .int (nI pl), .int (nI cr), .int (nI tk)])), (bz, .inl (cZ, 16, .inl se)), (bdt, .inl (cI, 16, .inl dt))] H := hP
          have hD : va_D A [(md, .inr (3, [.int th, .int (nI n), .ref bw, .ref bf, .ref bv, .ref bz, .int (nI kn), .ref bsp, .ref bdt, .ref bdr, .ref bhd, .ref bmv, .ref bod, .int (nI pl), .int (nI cr), .int (nI tk)])), (bz, .inl (cZ, 16, .inl se)), (bdt, .inl (cI, 16, .inl dt))] := hD
          refine lv_iload_n hx hb zd_M_isBehind_43 rfl (lv_at hl 1 rfl) ?_
          exact z_zret hx hb hr hlocks hP hK hD hS zd_M_isBehind_44 (by decide) (by decide) rfl (Or.inl ⟨rfl, rfl, hE⟩)
        · have hP : va_P (dC, dI) zcl [(md, .inr (3, [.int th, .int (nI n), .ref bw, .ref bf, .ref bv, .ref bz, .int (nI kn), .ref bsp, .ref bdt, .ref bdr, .ref bhd, .ref bmv, .ref bod, .int (nI pl), .int (nI cr), .int (nI tk)])), (bz, .inl (cZ, 16, .inl se)), (bdt, .inl (cI, 16, .inl dt))] H := hP
          have hD : va_D A [(md, .inr (3, [.int th, .int (nI n), .ref bw, .ref bf, .ref bv, .ref bz, .int (nI kn), .ref bsp, .ref bdt, .ref bdr, .ref bhd, .ref bmv, .ref bod, .int (nI pl), .int (nI cr), .int (nI tk)])), (bz, .inl (cZ, 16, .inl se)), (bdt, .inl (cI, 16, .inl dt))] := hD
          refine lv_iload_n hx hb zd_M_isBehind_43 rfl (lv_at hl 1 rfl) ?_
          exact z_zret hx hb hr hlocks hP hK hD hS zd_M_isBehind_44 (by decide) (by decide) rfl (Or.inr ⟨rfl, rfl, hN⟩)
      · have hk2 : k < x := Nat.lt_of_not_le (fun h => c1_ (nI_le h (by omega)))
        rcases hmk with ⟨rfl, hE⟩ | ⟨rfl, hN⟩
        · have hP : va_P (dC, dI) zcl [(md, .inr (3, [.int th, .int (nI n), .ref bw, .ref bf, .ref bv, .ref bz, .int (nI kn), .ref bsp, .ref bdt, .ref bdr, .ref bhd, .ref bmv, .ref bod, .int (nI pl), .int (nI cr), .int (nI tk)])), (bz, .inl (cZ, 16, .inl se)), (bdt, .inl (cI, 16, .inl dt))] H := hP
          have hD : va_D A [(md, .inr (3, [.int th, .int (nI n), .ref bw, .ref bf, .ref bv, .ref bz, .int (nI kn), .ref bsp, .ref bdt, .ref bdr, .ref bhd, .ref bmv, .ref bod, .int (nI pl), .int (nI cr), .int (nI tk)])), (bz, .inl (cZ, 16, .inl se)), (bdt, .inl (cI, 16, .inl dt))] := hD
          refine lv_iload_n hx hb zd_M_isBehind_9 rfl (lv_at hl 1 rfl) ?_
          refine lv_if_ne (tgt := 31) hx hb zd_M_isBehind_10 (by decide) (fun _ => ?_) (fun c2_ => absurd c2_ (by decide))
          refine lv_iconst (v := (nI 1)) hx hb zd_M_isBehind_31 (by decide) ?_
          refine lv_goto (tgt := 36) hx hb zd_M_isBehind_32 (by decide) ?_
          refine lv_istore_n (lv' := [(2, .int (nI 1)), (3, .int (nI k)), (0, .ref md), (1, .int (nI x))]) hx hb zd_M_isBehind_36 rfl hl (by decide) rfl (fun ls hl => ?_)
          refine lv_iinc (v := (nI (k + 1))) (lv' := [(3, .int (nI (k + 1))), (2, .int (nI 1)), (0, .ref md), (1, .int (nI x))]) hx hb zd_M_isBehind_37 hl (k := 1) rfl (nI_1 k) (by decide) rfl (fun ls hl => ?_)
          refine lv_goto (tgt := 4) hx hb zd_M_isBehind_40 (by decide) ?_
          exact ih (k + 1) 1 _ _ _ (by omega) (Or.inl ⟨rfl, z_ex_up hE⟩) (by omega) hP hD hS hl
        · have hP : va_P (dC, dI) zcl [(md, .inr (3, [.int th, .int (nI n), .ref bw, .ref bf, .ref bv, .ref bz, .int (nI kn), .ref bsp, .ref bdt, .ref bdr, .ref bhd, .ref bmv, .ref bod, .int (nI pl), .int (nI cr), .int (nI tk)])), (bz, .inl (cZ, 16, .inl se)), (bdt, .inl (cI, 16, .inl dt))] H := hP
          have hD : va_D A [(md, .inr (3, [.int th, .int (nI n), .ref bw, .ref bf, .ref bv, .ref bz, .int (nI kn), .ref bsp, .ref bdt, .ref bdr, .ref bhd, .ref bmv, .ref bod, .int (nI pl), .int (nI cr), .int (nI tk)])), (bz, .inl (cZ, 16, .inl se)), (bdt, .inl (cI, 16, .inl dt))] := hD
          refine lv_iload_n hx hb zd_M_isBehind_9 rfl (lv_at hl 1 rfl) ?_
          refine lv_if_ne (tgt := 31) hx hb zd_M_isBehind_10 (by decide) (fun c3_ => absurd (by decide) c3_) (fun _ => ?_)
          refine lv_aload_n hx hb zd_M_isBehind_13 rfl (lv_at hl 2 rfl) ?_
          refine va_get (D := (dC, dI)) (ci := 3) (v := .ref bz) (C := zR_M) (T := zF_M) (N := 16) hx hb htz zi_M hown hK hP 0 rfl rfl 5 (by decide) (htz _ zq_464) (fun _ h9 => h9) rfl zd_M_isBehind_14 ?_
          refine lv_iload_n hx hb zd_M_isBehind_17 rfl (lv_at hl 0 rfl) ?_
          refine z_zald hx hb hK hP 1 2 rfl rfl (j := k) (by omega) (by decide) zd_M_isBehind_18 ?_
          refine lv_if_eq (tgt := 35) hx hb zd_M_isBehind_19 (by decide) (fun c4_ => ?_) (fun c4_ => ?_)
          · have hq : ¬ zsd se dt k := fun h => h.1 c4_
            refine lv_iconst (v := (nI 0)) hx hb zd_M_isBehind_35 (by decide) ?_
            refine lv_istore_n (lv' := [(2, .int (nI 0)), (3, .int (nI k)), (0, .ref md), (1, .int (nI x))]) hx hb zd_M_isBehind_36 rfl hl (by decide) rfl (fun ls hl => ?_)
            refine lv_iinc (v := (nI (k + 1))) (lv' := [(3, .int (nI (k + 1))), (2, .int (nI 0)), (0, .ref md), (1, .int (nI x))]) hx hb zd_M_isBehind_37 hl (k := 1) rfl (nI_1 k) (by decide) rfl (fun ls hl => ?_)
            refine lv_goto (tgt := 4) hx hb zd_M_isBehind_40 (by decide) ?_
            exact ih (k + 1) 0 _ _ _ (by omega) (Or.inr ⟨rfl, z_all_up hN hq⟩) (by omega) hP hD hS hl
          · have hs1 := c4_
            refine lv_aload_n hx hb zd_M_isBehind_22 rfl (lv_at hl 2 rfl) ?_
            refine va_get (D := (dC, dI)) (ci := 3) (v := .ref bdt) (C := zR_M) (T := zF_M) (N := 16) hx hb htz zi_M hown hK hP 0 rfl rfl 8 (by decide) (htz _ zq_467) (fun _ h9 => h9) rfl zd_M_isBehind_23 ?_
            refine lv_iload_n hx hb zd_M_isBehind_26 rfl (lv_at hl 0 rfl) ?_
            refine z_iald hx hb hK hP 2 0 rfl rfl (j := k) (by omega) (by decide) zd_M_isBehind_27 ?_
            refine lv_if_le (tgt := 35) hx hb zd_M_isBehind_28 (by decide) (fun c5_ => ?_) (fun c5_ => ?_)
            · have hq : ¬ zsd se dt k := fun h => z_nlt c5_ h.2
              refine lv_iconst (v := (nI 0)) hx hb zd_M_isBehind_35 (by decide) ?_
              refine lv_istore_n (lv' := [(2, .int (nI 0)), (3, .int (nI k)), (0, .ref md), (1, .int (nI x))]) hx hb zd_M_isBehind_36 rfl hl (by decide) rfl (fun ls hl => ?_)
              refine lv_iinc (v := (nI (k + 1))) (lv' := [(3, .int (nI (k + 1))), (2, .int (nI 0)), (0, .ref md), (1, .int (nI x))]) hx hb zd_M_isBehind_37 hl (k := 1) rfl (nI_1 k) (by decide) rfl (fun ls hl => ?_)
              refine lv_goto (tgt := 4) hx hb zd_M_isBehind_40 (by decide) ?_
              exact ih (k + 1) 0 _ _ _ (by omega) (Or.inr ⟨rfl, z_all_up hN hq⟩) (by omega) hP hD hS hl
            · have hq : zsd se dt k := ⟨hs1, z_nle c5_⟩
              refine lv_iconst (v := (nI 1)) hx hb zd_M_isBehind_31 (by decide) ?_
              refine lv_goto (tgt := 36) hx hb zd_M_isBehind_32 (by decide) ?_
              refine lv_istore_n (lv' := [(2, .int (nI 1)), (3, .int (nI k)), (0, .ref md), (1, .int (nI x))]) hx hb zd_M_isBehind_36 rfl hl (by decide) rfl (fun ls hl => ?_)
              refine lv_iinc (v := (nI (k + 1))) (lv' := [(3, .int (nI (k + 1))), (2, .int (nI 1)), (0, .ref md), (1, .int (nI x))]) hx hb zd_M_isBehind_37 hl (k := 1) rfl (nI_1 k) (by decide) rfl (fun ls hl => ?_)
              refine lv_goto (tgt := 4) hx hb zd_M_isBehind_40 (by decide) ?_
              exact ih (k + 1) 1 _ _ _ (by omega) (Or.inl ⟨rfl, k, by omega, hq⟩) (by omega) hP hD hS hl
  exact lp4 _ 0 0 _ _ _ (Nat.zero_le _) (Or.inr ⟨rfl, fun q hq => absurd hq (Nat.not_lt_zero _)⟩) (Nat.lt_succ_self _) hP hD hS hl
set_option maxHeartbeats 4000000 in
set_option maxRecDepth 100000 in
/--  -/
theorem k_Model_isHeld_k (l : Launch) (dC : Nat → ClassId) (dI : Nat → Nat → Nat) (cI cJ cZ : ClassId) (md : Nat) (th : Int32) (n : Nat) (bw : Nat) (bf : Nat) (bv : Nat) (bz : Nat) (kn : Nat) (bsp : Nat) (bdt : Nat) (bdr : Nat) (bhd : Nat) (bmv : Nat) (bod : Nat) (pl : Nat) (cr : Nat) (tk : Nat) (hd : Nat → Int32) (x : Nat) (hc : cr ≤ 16) (sz : Nat) : zMi l zy_M_isHeld zw_M_isHeld ({ frames := 0, cells := 0, slots := 0, locals := 0 }) [.ref md, .int (nI x)] (dC, dI) zcl [(cI, .int), (cJ, .long), (cZ, .boolean)] [(md, .inr (3, [.int th, .int (nI n), .ref bw, .ref bf, .ref bv, .ref bz, .int (nI kn), .ref bsp, .ref bdt, .ref bdr, .ref bhd, .ref bmv, .ref bod, .int (nI pl), .int (nI cr), .int (nI tk)])), (bhd, .inl (cI, 16, .inl hd))] sz (fun (r : Int32) (u : va_W) => (r = nI 1 ∧ u = [(md, .inr (3, [.int th, .int (nI n), .ref bw, .ref bf, .ref bv, .ref bz, .int (nI kn), .ref bsp, .ref bdt, .ref bdr, .ref bhd, .ref bmv, .ref bod, .int (nI pl), .int (nI cr), .int (nI tk)])), (bhd, .inl (cI, 16, .inl hd))] ∧ (∃ q, q < cr ∧ hd q = nI x)) ∨ (r = nI 0 ∧ u = [(md, .inr (3, [.int th, .int (nI n), .ref bw, .ref bf, .ref bv, .ref bz, .int (nI kn), .ref bsp, .ref bdt, .ref bdr, .ref bhd, .ref bmv, .ref bod, .int (nI pl), .int (nI cr), .int (nI tk)])), (bhd, .inl (cI, 16, .inl hd))] ∧ (∀ q, q < cr → ¬ hd q = nI x))) := by
  refine z_ofi (cc := zc_M_isHeld) (maxL := 4) (ret := (some .boolean)) (by decide) rfl (Nat.le_of_ble_eq_true rfl) ?_
  intro p e s m below meth c A ls hx hb hr hml hown htz hlocks hin hA hP hK hD hS hl
  have hown : s.vm.findClass zR_M = some m.cls := hown
  have hl : lv_has ls 4 [(0, .ref md), (1, .int (nI x))] := hl
  refine lv_iconst (v := (nI 0)) hx hb zd_M_isHeld_0 (by decide) ?_
  refine lv_istore_n (lv' := [(2, .int (nI 0)), (0, .ref md), (1, .int (nI x))]) hx hb zd_M_isHeld_1 rfl hl (by decide) rfl (fun ls hl => ?_)
  refine lv_iconst (v := (nI 0)) hx hb zd_M_isHeld_2 (by decide) ?_
  refine lv_istore_n (lv' := [(3, .int (nI 0)), (2, .int (nI 0)), (0, .ref md), (1, .int (nI x))]) hx hb zd_M_isHeld_3 rfl hl (by decide) rfl (fun ls hl => ?_)
  have lp4 : ∀ (fuel : Nat) (k : Nat) (b : Nat) (H : Heap) (locs : List Loc) (ls : Array Slot), (k ≤ cr) → ((b = 1 ∧ ∃ q, q < k ∧ hd q = nI x) ∨ (b = 0 ∧ ∀ q, q < k → ¬ hd q = nI x)) → cr - k < fuel → va_P (dC, dI) zcl [(md, .inr (3, [.int th, .int (nI n), .ref bw, .ref bf, .ref bv, .ref bz, .int (nI kn), .ref bsp, .ref bdt, .ref bdr, .ref bhd, .ref bmv, .ref bod, .int (nI pl), .int (nI cr), .int (nI tk)])), (bhd, .inl (cI, 16, .inl hd))] H → va_D A [(md, .inr (3, [.int th, .int (nI n), .ref bw, .ref bf, .ref bv, .ref bz, .int (nI kn), .ref bsp, .ref bdt, .ref bdr, .ref bhd, .ref bmv, .ref bod, .int (nI pl), .int (nI cr), .int (nI tk)])), (bhd, .inl (cI, 16, .inl hd))] → va_S A s.heap H locs → lv_has ls 4 [(3, .int (nI k)), (2, .int (nI b)), (0, .ref md), (1, .int (nI x))] → W p l e ({ frames := 0, cells := 0, slots := 0, locals := 0 } : Room) s m [.ref md, .int (nI x)].toArray below meth c H locs 0 0 (MQ below (va_Qi (fun (r : Int32) (u : va_W) => (r = nI 1 ∧ u = [(md, .inr (3, [.int th, .int (nI n), .ref bw, .ref bf, .ref bv, .ref bz, .int (nI kn), .ref bsp, .ref bdt, .ref bdr, .ref bhd, .ref bmv, .ref bod, .int (nI pl), .int (nI cr), .int (nI tk)])), (bhd, .inl (cI, 16, .inl hd))] ∧ (∃ q, q < cr ∧ hd q = nI x)) ∨ (r = nI 0 ∧ u = [(md, .inr (3, [.int th, .int (nI n), .ref bw, .ref bf, .ref bv, .ref bz, .int (nI kn), .ref bsp, .ref bdt, .ref bdr, .ref bhd, .ref bmv, .ref bod, .int (nI pl), .int (nI cr), .int (nI tk)])), (bhd, .inl (cI, 16, .inl hd))] ∧ (∀ q, q < cr → ¬ hd q = nI x))) (zAt (dC, dI) zcl [(cI, .int), (cJ, .long), (cZ, .boolean)] A) A) [.ref md, .int (nI x)].toArray s 0 0 A) (F0 m 4 ls []) := by
    intro fuel
    induction fuel with
    | zero => intro k b H locs ls hk hmk hf; exact absurd hf (Nat.not_lt_zero _)
    | succ fuel ih =>
      intro k b H locs ls hk hmk hf hP hD hS hl
      refine lv_iload_n hx hb zd_M_isHeld_4 rfl (lv_at hl 0 rfl) ?_
      refine lv_aload_n hx hb zd_M_isHeld_5 rfl (lv_at hl 2 rfl) ?_
      refine va_get (D := (dC, dI)) (ci := 3) (v := .int (nI cr)) (C := zR_M) (T := zF_M) (N := 16) hx hb htz zi_M hown hK hP 0 rfl rfl 14 (by decide) (htz _ zq_473) (fun _ h9 => h9) rfl zd_M_isHeld_6 ?_
      refine lv_icmp_ge (tgt := 38) hx hb zd_M_isHeld_9 (by decide) (fun c1_ => ?_) (fun c1_ => ?_)
      · have hk2 : k = cr := Nat.le_antisymm hk (Nat.le_of_not_lt (fun h => nI_ge h (by omega) c1_))
        rw [hk2] at hmk
        rcases hmk with ⟨rfl, hE⟩ | ⟨rfl, hN⟩
        · have hP : va_P (dC, dI) zcl [(md, .inr (3, [.int th, .int (nI n), .ref bw, .ref bf, .ref bv, .ref bz, .int (nI kn), .ref bsp, .ref bdt, .ref bdr, .ref bhd, .ref bmv, .ref bod, .int (nI pl), .int (nI cr), .int (nI tk)])), (bhd, .inl (cI, 16, .inl hd))] H := hP
          have hD : va_D A [(md, .inr (3, [.int th, .int (nI n), .ref bw, .ref bf, .ref bv, .ref bz, .int (nI kn), .ref bsp, .ref bdt, .ref bdr, .ref bhd, .ref bmv, .ref bod, .int (nI pl), .int (nI cr), .int (nI tk)])), (bhd, .inl (cI, 16, .inl hd))] := hD
          refine lv_iload_n hx hb zd_M_isHeld_38 rfl (lv_at hl 1 rfl) ?_
          exact z_zret hx hb hr hlocks hP hK hD hS zd_M_isHeld_39 (by decide) (by decide) rfl (Or.inl ⟨rfl, rfl, hE⟩)
        · have hP : va_P (dC, dI) zcl [(md, .inr (3, [.int th, .int (nI n), .ref bw, .ref bf, .ref bv, .ref bz, .int (nI kn), .ref bsp, .ref bdt, .ref bdr, .ref bhd, .ref bmv, .ref bod, .int (nI pl), .int (nI cr), .int (nI tk)])), (bhd, .inl (cI, 16, .inl hd))] H := hP
          have hD : va_D A [(md, .inr (3, [.int th, .int (nI n), .ref bw, .ref bf, .ref bv, .ref bz, .int (nI kn), .ref bsp, .ref bdt, .ref bdr, .ref bhd, .ref bmv, .ref bod, .int (nI pl), .int (nI cr), .int (nI tk)])), (bhd, .inl (cI, 16, .inl hd))] := hD
          refine lv_iload_n hx hb zd_M_isHeld_38 rfl (lv_at hl 1 rfl) ?_
          exact z_zret hx hb hr hlocks hP hK hD hS zd_M_isHeld_39 (by decide) (by decide) rfl (Or.inr ⟨rfl, rfl, hN⟩)
      · have hk2 : k < cr := Nat.lt_of_not_le (fun h => c1_ (nI_le h (by omega)))
        rcases hmk with ⟨rfl, hE⟩ | ⟨rfl, hN⟩
        · have hP : va_P (dC, dI) zcl [(md, .inr (3, [.int th, .int (nI n), .ref bw, .ref bf, .ref bv, .ref bz, .int (nI kn), .ref bsp, .ref bdt, .ref bdr, .ref bhd, .ref bmv, .ref bod, .int (nI pl), .int (nI cr), .int (nI tk)])), (bhd, .inl (cI, 16, .inl hd))] H := hP
          have hD : va_D A [(md, .inr (3, [.int th, .int (nI n), .ref bw, .ref bf, .ref bv, .ref bz, .int (nI kn), .ref bsp, .ref bdt, .ref bdr, .ref bhd, .ref bmv, .ref bod, .int (nI pl), .int (nI cr), .int (nI tk)])), (bhd, .inl (cI, 16, .inl hd))] := hD
          refine lv_iload_n hx hb zd_M_isHeld_12 rfl (lv_at hl 1 rfl) ?_
          refine lv_if_ne (tgt := 26) hx hb zd_M_isHeld_13 (by decide) (fun _ => ?_) (fun c2_ => absurd c2_ (by decide))
          refine lv_iconst (v := (nI 1)) hx hb zd_M_isHeld_26 (by decide) ?_
          refine lv_goto (tgt := 31) hx hb zd_M_isHeld_27 (by decide) ?_
          refine lv_istore_n (lv' := [(2, .int (nI 1)), (3, .int (nI k)), (0, .ref md), (1, .int (nI x))]) hx hb zd_M_isHeld_31 rfl hl (by decide) rfl (fun ls hl => ?_)
          refine lv_iinc (v := (nI (k + 1))) (lv' := [(3, .int (nI (k + 1))), (2, .int (nI 1)), (0, .ref md), (1, .int (nI x))]) hx hb zd_M_isHeld_32 hl (k := 1) rfl (nI_1 k) (by decide) rfl (fun ls hl => ?_)
          refine lv_goto (tgt := 4) hx hb zd_M_isHeld_35 (by decide) ?_
          exact ih (k + 1) 1 _ _ _ (by omega) (Or.inl ⟨rfl, z_ex_up hE⟩) (by omega) hP hD hS hl
        · have hP : va_P (dC, dI) zcl [(md, .inr (3, [.int th, .int (nI n), .ref bw, .ref bf, .ref bv, .ref bz, .int (nI kn), .ref bsp, .ref bdt, .ref bdr, .ref bhd, .ref bmv, .ref bod, .int (nI pl), .int (nI cr), .int (nI tk)])), (bhd, .inl (cI, 16, .inl hd))] H := hP
          have hD : va_D A [(md, .inr (3, [.int th, .int (nI n), .ref bw, .ref bf, .ref bv, .ref bz, .int (nI kn), .ref bsp, .ref bdt, .ref bdr, .ref bhd, .ref bmv, .ref bod, .int (nI pl), .int (nI cr), .int (nI tk)])), (bhd, .inl (cI, 16, .inl hd))] := hD
          refine lv_iload_n hx hb zd_M_isHeld_12 rfl (lv_at hl 1 rfl) ?_
          refine lv_if_ne (tgt := 26) hx hb zd_M_isHeld_13 (by decide) (fun c3_ => absurd (by decide) c3_) (fun _ => ?_)
          refine lv_aload_n hx hb zd_M_isHeld_16 rfl (lv_at hl 2 rfl) ?_
          refine va_get (D := (dC, dI)) (ci := 3) (v := .ref bhd) (C := zR_M) (T := zF_M) (N := 16) hx hb htz zi_M hown hK hP 0 rfl rfl 10 (by decide) (htz _ zq_469) (fun _ h9 => h9) rfl zd_M_isHeld_17 ?_
          refine lv_iload_n hx hb zd_M_isHeld_20 rfl (lv_at hl 0 rfl) ?_
          refine z_iald hx hb hK hP 1 0 rfl rfl (j := k) (by omega) (by decide) zd_M_isHeld_21 ?_
          refine lv_iload_n hx hb zd_M_isHeld_22 rfl (lv_at hl 3 rfl) ?_
          refine lv_icmp_ne (tgt := 30) hx hb zd_M_isHeld_23 (by decide) (fun c4_ => ?_) (fun c4_ => ?_)
          · have hq : ¬ hd k = nI x := c4_
            refine lv_iconst (v := (nI 0)) hx hb zd_M_isHeld_30 (by decide) ?_
            refine lv_istore_n (lv' := [(2, .int (nI 0)), (3, .int (nI k)), (0, .ref md), (1, .int (nI x))]) hx hb zd_M_isHeld_31 rfl hl (by decide) rfl (fun ls hl => ?_)
            refine lv_iinc (v := (nI (k + 1))) (lv' := [(3, .int (nI (k + 1))), (2, .int (nI 0)), (0, .ref md), (1, .int (nI x))]) hx hb zd_M_isHeld_32 hl (k := 1) rfl (nI_1 k) (by decide) rfl (fun ls hl => ?_)
            refine lv_goto (tgt := 4) hx hb zd_M_isHeld_35 (by decide) ?_
            exact ih (k + 1) 0 _ _ _ (by omega) (Or.inr ⟨rfl, z_all_up hN hq⟩) (by omega) hP hD hS hl
          · have hq : hd k = nI x := c4_
            refine lv_iconst (v := (nI 1)) hx hb zd_M_isHeld_26 (by decide) ?_
            refine lv_goto (tgt := 31) hx hb zd_M_isHeld_27 (by decide) ?_
            refine lv_istore_n (lv' := [(2, .int (nI 1)), (3, .int (nI k)), (0, .ref md), (1, .int (nI x))]) hx hb zd_M_isHeld_31 rfl hl (by decide) rfl (fun ls hl => ?_)
            refine lv_iinc (v := (nI (k + 1))) (lv' := [(3, .int (nI (k + 1))), (2, .int (nI 1)), (0, .ref md), (1, .int (nI x))]) hx hb zd_M_isHeld_32 hl (k := 1) rfl (nI_1 k) (by decide) rfl (fun ls hl => ?_)
            refine lv_goto (tgt := 4) hx hb zd_M_isHeld_35 (by decide) ?_
            exact ih (k + 1) 1 _ _ _ (by omega) (Or.inl ⟨rfl, k, by omega, hq⟩) (by omega) hP hD hS hl
  exact lp4 _ 0 0 _ _ _ (Nat.zero_le _) (Or.inr ⟨rfl, fun q hq => absurd hq (Nat.not_lt_zero _)⟩) (Nat.lt_succ_self _) hP hD hS hl
set_option maxHeartbeats 4000000 in
set_option maxRecDepth 100000 in
/--  -/
theorem k_Model_waits (l : Launch) (dC : Nat → ClassId) (dI : Nat → Nat → Nat) (cI cJ cZ : ClassId) (md : Nat) (th : Int32) (n : Nat) (bw : Nat) (bf : Nat) (bv : Nat) (bz : Nat) (kn : Nat) (bsp : Nat) (bdt : Nat) (bdr : Nat) (bhd : Nat) (bmv : Nat) (bod : Nat) (pl : Nat) (cr : Nat) (tk : Nat) (se : Nat → Int32) (dt : Nat → Int32) (hd : Nat → Int32) (hn : n ≤ 16) (hc : cr ≤ 16) (sz : Nat) : zMi l zy_M_waits zw_M_waits ({ frames := 1, cells := 0, slots := 0, locals := 23 }) [.ref md] (dC, dI) zcl [(cI, .int), (cJ, .long), (cZ, .boolean)] [(md, .inr (3, [.int th, .int (nI n), .ref bw, .ref bf, .ref bv, .ref bz, .int (nI kn), .ref bsp, .ref bdt, .ref bdr, .ref bhd, .ref bmv, .ref bod, .int (nI pl), .int (nI cr), .int (nI tk)])), (bz, .inl (cZ, 16, .inl se)), (bdt, .inl (cI, 16, .inl dt)), (bhd, .inl (cI, 16, .inl hd))] sz (fun (r : Int32) (u : va_W) => (∃ (x : Nat), r = nI x ∧ u = [(md, .inr (3, [.int th, .int (nI n), .ref bw, .ref bf, .ref bv, .ref bz, .int (nI kn), .ref bsp, .ref bdt, .ref bdr, .ref bhd, .ref bmv, .ref bod, .int (nI pl), .int (nI cr), .int (nI tk)])), (bz, .inl (cZ, 16, .inl se)), (bdt, .inl (cI, 16, .inl dt)), (bhd, .inl (cI, 16, .inl hd))] ∧ x < n ∧ zwt se dt hd cr x ∧ (∀ q, q < x → ¬ zwt se dt hd cr q)) ∨ (r = (-1) ∧ u = [(md, .inr (3, [.int th, .int (nI n), .ref bw, .ref bf, .ref bv, .ref bz, .int (nI kn), .ref bsp, .ref bdt, .ref bdr, .ref bhd, .ref bmv, .ref bod, .int (nI pl), .int (nI cr), .int (nI tk)])), (bz, .inl (cZ, 16, .inl se)), (bdt, .inl (cI, 16, .inl dt)), (bhd, .inl (cI, 16, .inl hd))] ∧ (∀ q, q < n → ¬ zwt se dt hd cr q))) := by
  refine z_ofi (cc := zc_M_waits) (maxL := 2) (ret := (some .int)) (by decide) rfl (Nat.le_of_ble_eq_true rfl) ?_
  intro p e s m below meth c A ls hx hb hr hml hown htz hlocks hin hA hP hK hD hS hl
  have hown : s.vm.findClass zR_M = some m.cls := hown
  have hl : lv_has ls 2 [(0, .ref md)] := hl
  refine lv_iconst (v := (nI 0)) hx hb zd_M_waits_0 (by decide) ?_
  refine lv_istore_n (lv' := [(1, .int (nI 0)), (0, .ref md)]) hx hb zd_M_waits_1 rfl hl (by decide) rfl (fun ls hl => ?_)
  have lp2 : ∀ (fuel : Nat) (k : Nat) (H : Heap) (locs : List Loc) (ls : Array Slot), (k ≤ n) → (∀ q, q < k → ¬ zwt se dt hd cr q) → n - k < fuel → va_P (dC, dI) zcl [(md, .inr (3, [.int th, .int (nI n), .ref bw, .ref bf, .ref bv, .ref bz, .int (nI kn), .ref bsp, .ref bdt, .ref bdr, .ref bhd, .ref bmv, .ref bod, .int (nI pl), .int (nI cr), .int (nI tk)])), (bz, .inl (cZ, 16, .inl se)), (bdt, .inl (cI, 16, .inl dt)), (bhd, .inl (cI, 16, .inl hd))] H → va_D A [(md, .inr (3, [.int th, .int (nI n), .ref bw, .ref bf, .ref bv, .ref bz, .int (nI kn), .ref bsp, .ref bdt, .ref bdr, .ref bhd, .ref bmv, .ref bod, .int (nI pl), .int (nI cr), .int (nI tk)])), (bz, .inl (cZ, 16, .inl se)), (bdt, .inl (cI, 16, .inl dt)), (bhd, .inl (cI, 16, .inl hd))] → va_S A s.heap H locs → lv_has ls 2 [(1, .int (nI k)), (0, .ref md)] → W p l e ({ frames := 1, cells := 0, slots := 0, locals := 23 } : Room) s m [.ref md].toArray below meth c H locs 0 0 (MQ below (va_Qi (fun (r : Int32) (u : va_W) => (∃ (x : Nat), r = nI x ∧ u = [(md, .inr (3, [.int th, .int (nI n), .ref bw, .ref bf, .ref bv, .ref bz, .int (nI kn), .ref bsp, .ref bdt, .ref bdr, .ref bhd, .ref bmv, .ref bod, .int (nI pl), .int (nI cr), .int (nI tk)])), (bz, .inl (cZ, 16, .inl se)), (bdt, .inl (cI, 16, .inl dt)), (bhd, .inl (cI, 16, .inl hd))] ∧ x < n ∧ zwt se dt hd cr x ∧ (∀ q, q < x → ¬ zwt se dt hd cr q)) ∨ (r = (-1) ∧ u = [(md, .inr (3, [.int th, .int (nI n), .ref bw, .ref bf, .ref bv, .ref bz, .int (nI kn), .ref bsp, .ref bdt, .ref bdr, .ref bhd, .ref bmv, .ref bod, .int (nI pl), .int (nI cr), .int (nI tk)])), (bz, .inl (cZ, 16, .inl se)), (bdt, .inl (cI, 16, .inl dt)), (bhd, .inl (cI, 16, .inl hd))] ∧ (∀ q, q < n → ¬ zwt se dt hd cr q))) (zAt (dC, dI) zcl [(cI, .int), (cJ, .long), (cZ, .boolean)] A) A) [.ref md].toArray s 0 0 A) (F0 m 2 ls []) := by
    intro fuel
    induction fuel with
    | zero => intro k H locs ls hk hz hf; exact absurd hf (Nat.not_lt_zero _)
    | succ fuel ih =>
      intro k H locs ls hk hz hf hP hD hS hl
      refine lv_iload_n hx hb zd_M_waits_2 rfl (lv_at hl 0 rfl) ?_
      refine lv_aload_n hx hb zd_M_waits_3 rfl (lv_at hl 1 rfl) ?_
      refine va_get (D := (dC, dI)) (ci := 3) (v := .int (nI n)) (C := zR_M) (T := zF_M) (N := 16) hx hb htz zi_M hown hK hP 0 rfl rfl 1 (by decide) (htz _ zq_460) (fun _ h9 => h9) rfl zd_M_waits_4 ?_
      refine lv_icmp_ge (tgt := 43) hx hb zd_M_waits_7 (by decide) (fun c1_ => ?_) (fun c1_ => ?_)
      · have hk2 : k = n := Nat.le_antisymm hk (Nat.le_of_not_lt (fun h => nI_ge h (by omega) c1_))
        rw [hk2] at hz
        refine lv_iconst (v := (-1)) hx hb zd_M_waits_43 (by decide) ?_
        exact z_iret hx hb hr hlocks hP hK hD hS zd_M_waits_44 (by decide) (by decide) (Or.inr ⟨rfl, rfl, hz⟩)
      · have hk2 : k < n := Nat.lt_of_not_le (fun h => c1_ (nI_le h (by omega)))
        refine lv_aload_n hx hb zd_M_waits_10 rfl (lv_at hl 1 rfl) ?_
        refine va_get (D := (dC, dI)) (ci := 3) (v := .ref bdt) (C := zR_M) (T := zF_M) (N := 16) hx hb htz zi_M hown hK hP 0 rfl rfl 8 (by decide) (htz _ zq_467) (fun _ h9 => h9) rfl zd_M_waits_11 ?_
        refine lv_iload_n hx hb zd_M_waits_14 rfl (lv_at hl 0 rfl) ?_
        refine z_iald hx hb hK hP 2 0 rfl rfl (j := k) (by omega) (by decide) zd_M_waits_15 ?_
        refine lv_if_ne (tgt := 37) hx hb zd_M_waits_16 (by decide) (fun c2_ => ?_) (fun c2_ => ?_)
        · have hq : ¬ zwt se dt hd cr k := fun h => c2_ h.1
          refine lv_iinc (v := (nI (k + 1))) (lv' := [(1, .int (nI (k + 1))), (0, .ref md)]) hx hb zd_M_waits_37 hl (k := 0) rfl (nI_1 k) (by decide) rfl (fun ls hl => ?_)
          refine lv_goto (tgt := 2) hx hb zd_M_waits_40 (by decide) ?_
          exact ih (k + 1) _ _ _ (by omega) (z_all_up hz hq) (by omega) hP hD hS hl
        · have h1_ := c2_
          refine lv_aload_n hx hb zd_M_waits_19 rfl (lv_at hl 1 rfl) ?_
          refine lv_iload_n hx hb zd_M_waits_20 rfl (lv_at hl 0 rfl) ?_
          refine z_Vi (As := [.int (nI k)]) (rest := []) (wc := [(md, .inr (3, [.int th, .int (nI n), .ref bw, .ref bf, .ref bv, .ref bz, .int (nI kn), .ref bsp, .ref bdt, .ref bdr, .ref bhd, .ref bmv, .ref bod, .int (nI pl), .int (nI cr), .int (nI tk)])), (bhd, .inl (cI, 16, .inl hd))]) (wr := [(bz, .inl (cZ, 16, .inl se)), (bdt, .inl (cI, 16, .inl dt))]) ⟨hx, hb, hml, hown, htz⟩ hK hP hD hS hA (k_Model_isHeld_k l dC dI cI cJ cZ md th n bw bf bv bz kn bsp bdt bdr bhd bmv bod pl cr tk hd k (by first | assumption | omega) H.size) (zcwV 1 htz zq_539 zq_536 zq_538 zp_17 zq_6 (by decide +kernel) ⟨Nat.le_of_ble_eq_true rfl, Nat.le_of_ble_eq_true rfl⟩) 0 3 rfl rfl [0, 3] [1, 2] rfl rfl rfl (by decide) rfl hl.1 rfl (Nat.le_of_ble_eq_true rfl) zd_M_waits_21 ⟨Nat.le_of_ble_eq_true rfl, Nat.le_of_ble_eq_true rfl⟩ (fun r u H locs hw hP hD hS => ?_)
          rcases hw with ⟨rfl, rfl, hb3_⟩ | ⟨rfl, rfl, hb4_⟩
          · have hP : va_P (dC, dI) zcl [(bz, .inl (cZ, 16, .inl se)), (bdt, .inl (cI, 16, .inl dt)), (md, .inr (3, [.int th, .int (nI n), .ref bw, .ref bf, .ref bv, .ref bz, .int (nI kn), .ref bsp, .ref bdt, .ref bdr, .ref bhd, .ref bmv, .ref bod, .int (nI pl), .int (nI cr), .int (nI tk)])), (bhd, .inl (cI, 16, .inl hd))] H := hP
            have hD : va_D A [(bz, .inl (cZ, 16, .inl se)), (bdt, .inl (cI, 16, .inl dt)), (md, .inr (3, [.int th, .int (nI n), .ref bw, .ref bf, .ref bv, .ref bz, .int (nI kn), .ref bsp, .ref bdt, .ref bdr, .ref bhd, .ref bmv, .ref bod, .int (nI pl), .int (nI cr), .int (nI tk)])), (bhd, .inl (cI, 16, .inl hd))] := hD
            have hq : ¬ zwt se dt hd cr k := fun h => hb3_.elim (fun v hv => h.2.1 v hv.1 hv.2)
            refine lv_if_ne (tgt := 37) hx hb zd_M_waits_24 (by decide) (fun _ => ?_) (fun c5_ => absurd c5_ (by decide))
            refine lv_iinc (v := (nI (k + 1))) (lv' := [(1, .int (nI (k + 1))), (0, .ref md)]) hx hb zd_M_waits_37 hl (k := 0) rfl (nI_1 k) (by decide) rfl (fun ls hl => ?_)
            refine lv_goto (tgt := 2) hx hb zd_M_waits_40 (by decide) ?_
            exact ih (k + 1) _ _ _ (by omega) (z_all_up hz hq) (by omega) (hP.sub [2, 0, 1, 3] rfl) (hD.sub [2, 0, 1, 3] (by decide) rfl) hS hl
          · have hP : va_P (dC, dI) zcl [(bz, .inl (cZ, 16, .inl se)), (bdt, .inl (cI, 16, .inl dt)), (md, .inr (3, [.int th, .int (nI n), .ref bw, .ref bf, .ref bv, .ref bz, .int (nI kn), .ref bsp, .ref bdt, .ref bdr, .ref bhd, .ref bmv, .ref bod, .int (nI pl), .int (nI cr), .int (nI tk)])), (bhd, .inl (cI, 16, .inl hd))] H := hP
            have hD : va_D A [(bz, .inl (cZ, 16, .inl se)), (bdt, .inl (cI, 16, .inl dt)), (md, .inr (3, [.int th, .int (nI n), .ref bw, .ref bf, .ref bv, .ref bz, .int (nI kn), .ref bsp, .ref bdt, .ref bdr, .ref bhd, .ref bmv, .ref bod, .int (nI pl), .int (nI cr), .int (nI tk)])), (bhd, .inl (cI, 16, .inl hd))] := hD
            have h2_ := hb4_
            refine lv_if_ne (tgt := 37) hx hb zd_M_waits_24 (by decide) (fun c6_ => absurd (by decide) c6_) (fun _ => ?_)
            refine lv_aload_n hx hb zd_M_waits_27 rfl (lv_at hl 1 rfl) ?_
            refine lv_iload_n hx hb zd_M_waits_28 rfl (lv_at hl 0 rfl) ?_
            refine z_Vi (As := [.int (nI k)]) (rest := []) (wc := [(md, .inr (3, [.int th, .int (nI n), .ref bw, .ref bf, .ref bv, .ref bz, .int (nI kn), .ref bsp, .ref bdt, .ref bdr, .ref bhd, .ref bmv, .ref bod, .int (nI pl), .int (nI cr), .int (nI tk)])), (bz, .inl (cZ, 16, .inl se)), (bdt, .inl (cI, 16, .inl dt))]) (wr := [(bhd, .inl (cI, 16, .inl hd))]) ⟨hx, hb, hml, hown, htz⟩ hK hP hD hS hA (k_Model_isBehind_k l dC dI cI cJ cZ md th n bw bf bv bz kn bsp bdt bdr bhd bmv bod pl cr tk se dt k (by first | assumption | omega) H.size) (zcwV 1 htz zq_543 zq_540 zq_542 zp_18 zq_6 (by decide +kernel) ⟨Nat.le_of_ble_eq_true rfl, Nat.le_of_ble_eq_true rfl⟩) 2 3 rfl rfl [2, 0, 1] [3] rfl rfl rfl (by decide) rfl hl.1 rfl (Nat.le_of_ble_eq_true rfl) zd_M_waits_29 ⟨Nat.le_of_ble_eq_true rfl, Nat.le_of_ble_eq_true rfl⟩ (fun r u H locs hw hP hD hS => ?_)
            rcases hw with ⟨rfl, rfl, hb7_⟩ | ⟨rfl, rfl, hb8_⟩
            · have hP : va_P (dC, dI) zcl [(bhd, .inl (cI, 16, .inl hd)), (md, .inr (3, [.int th, .int (nI n), .ref bw, .ref bf, .ref bv, .ref bz, .int (nI kn), .ref bsp, .ref bdt, .ref bdr, .ref bhd, .ref bmv, .ref bod, .int (nI pl), .int (nI cr), .int (nI tk)])), (bz, .inl (cZ, 16, .inl se)), (bdt, .inl (cI, 16, .inl dt))] H := hP
              have hD : va_D A [(bhd, .inl (cI, 16, .inl hd)), (md, .inr (3, [.int th, .int (nI n), .ref bw, .ref bf, .ref bv, .ref bz, .int (nI kn), .ref bsp, .ref bdt, .ref bdr, .ref bhd, .ref bmv, .ref bod, .int (nI pl), .int (nI cr), .int (nI tk)])), (bz, .inl (cZ, 16, .inl se)), (bdt, .inl (cI, 16, .inl dt))] := hD
              have hq : ¬ zwt se dt hd cr k := fun h => hb7_.elim (fun v hv => h.2.2 v hv.1 hv.2)
              refine lv_if_ne (tgt := 37) hx hb zd_M_waits_32 (by decide) (fun _ => ?_) (fun c9_ => absurd c9_ (by decide))
              refine lv_iinc (v := (nI (k + 1))) (lv' := [(1, .int (nI (k + 1))), (0, .ref md)]) hx hb zd_M_waits_37 hl (k := 0) rfl (nI_1 k) (by decide) rfl (fun ls hl => ?_)
              refine lv_goto (tgt := 2) hx hb zd_M_waits_40 (by decide) ?_
              exact ih (k + 1) _ _ _ (by omega) (z_all_up hz hq) (by omega) (hP.sub [1, 2, 3, 0] rfl) (hD.sub [1, 2, 3, 0] (by decide) rfl) hS hl
            · have hP : va_P (dC, dI) zcl [(bhd, .inl (cI, 16, .inl hd)), (md, .inr (3, [.int th, .int (nI n), .ref bw, .ref bf, .ref bv, .ref bz, .int (nI kn), .ref bsp, .ref bdt, .ref bdr, .ref bhd, .ref bmv, .ref bod, .int (nI pl), .int (nI cr), .int (nI tk)])), (bz, .inl (cZ, 16, .inl se)), (bdt, .inl (cI, 16, .inl dt))] H := hP
              have hD : va_D A [(bhd, .inl (cI, 16, .inl hd)), (md, .inr (3, [.int th, .int (nI n), .ref bw, .ref bf, .ref bv, .ref bz, .int (nI kn), .ref bsp, .ref bdt, .ref bdr, .ref bhd, .ref bmv, .ref bod, .int (nI pl), .int (nI cr), .int (nI tk)])), (bz, .inl (cZ, 16, .inl se)), (bdt, .inl (cI, 16, .inl dt))] := hD
              have h3_ := hb8_
              refine lv_if_ne (tgt := 37) hx hb zd_M_waits_32 (by decide) (fun c10_ => absurd (by decide) c10_) (fun _ => ?_)
              refine lv_iload_n hx hb zd_M_waits_35 rfl (lv_at hl 0 rfl) ?_
              have hP := hP.sub (ws' := [(md, .inr (3, [.int th, .int (nI n), .ref bw, .ref bf, .ref bv, .ref bz, .int (nI kn), .ref bsp, .ref bdt, .ref bdr, .ref bhd, .ref bmv, .ref bod, .int (nI pl), .int (nI cr), .int (nI tk)])), (bz, .inl (cZ, 16, .inl se)), (bdt, .inl (cI, 16, .inl dt)), (bhd, .inl (cI, 16, .inl hd))]) [1, 2, 3, 0] rfl
              have hD := hD.sub (ws' := [(md, .inr (3, [.int th, .int (nI n), .ref bw, .ref bf, .ref bv, .ref bz, .int (nI kn), .ref bsp, .ref bdt, .ref bdr, .ref bhd, .ref bmv, .ref bod, .int (nI pl), .int (nI cr), .int (nI tk)])), (bz, .inl (cZ, 16, .inl se)), (bdt, .inl (cI, 16, .inl dt)), (bhd, .inl (cI, 16, .inl hd))]) [1, 2, 3, 0] (by decide) rfl
              exact z_iret hx hb hr hlocks hP hK hD hS zd_M_waits_36 (by decide) (by decide) (Or.inl ⟨k, rfl, rfl, hk2, ⟨h1_, h2_, h3_⟩, hz⟩)
  exact lp2 _ 0 _ _ _ (Nat.zero_le _) (fun q hq => absurd hq (Nat.not_lt_zero _)) (Nat.lt_succ_self _) hP hD hS hl
set_option maxHeartbeats 4000000 in
set_option maxRecDepth 100000 in
/--  -/
theorem k_Model_movers_1 (l : Launch) (dC : Nat → ClassId) (dI : Nat → Nat → Nat) (cI cJ cZ : ClassId) (md : Nat) (th : Int32) (n : Nat) (bw : Nat) (bf : Nat) (bv : Nat) (bz : Nat) (kn : Nat) (bsp : Nat) (bdt : Nat) (bdr : Nat) (bhd : Nat) (bmv : Nat) (bod : Nat) (pl : Nat) (cr : Nat) (tk : Nat) (hd : Nat → Int32) (hc : cr ≤ 16) (sz : Nat) : zMi l zy_M_movers zw_M_movers ({ frames := 0, cells := 0, slots := 0, locals := 0 }) [.ref md, .int (nI 1)] (dC, dI) zcl [(cI, .int), (cJ, .long), (cZ, .boolean)] [(md, .inr (3, [.int th, .int (nI n), .ref bw, .ref bf, .ref bv, .ref bz, .int (nI kn), .ref bsp, .ref bdt, .ref bdr, .ref bhd, .ref bmv, .ref bod, .int (nI pl), .int (nI cr), .int (nI tk)])), (bhd, .inl (cI, 16, .inl hd))] sz (fun (r : Int32) (u : va_W) => r = nI cr ∧ u = [(md, .inr (3, [.int th, .int (nI n), .ref bw, .ref bf, .ref bv, .ref bz, .int (nI kn), .ref bsp, .ref bdt, .ref bdr, .ref bhd, .ref bmv, .ref bod, .int (nI pl), .int (nI cr), .int (nI tk)])), (bhd, .inl (cI, 16, .inl hd))]) := by
  refine z_ofi (cc := zc_M_movers) (maxL := 4) (ret := (some .int)) (by decide) rfl (Nat.le_of_ble_eq_true rfl) ?_
  intro p e s m below meth c A ls hx hb hr hml hown htz hlocks hin hA hP hK hD hS hl
  have hown : s.vm.findClass zR_M = some m.cls := hown
  have hl : lv_has ls 4 [(0, .ref md), (1, .int (nI 1))] := hl
  refine lv_iconst (v := (nI 0)) hx hb zd_M_movers_0 (by decide) ?_
  refine lv_istore_n (lv' := [(2, .int (nI 0)), (0, .ref md), (1, .int (nI 1))]) hx hb zd_M_movers_1 rfl hl (by decide) rfl (fun ls hl => ?_)
  refine lv_iconst (v := (nI 0)) hx hb zd_M_movers_2 (by decide) ?_
  refine lv_istore_n (lv' := [(3, .int (nI 0)), (2, .int (nI 0)), (0, .ref md), (1, .int (nI 1))]) hx hb zd_M_movers_3 rfl hl (by decide) rfl (fun ls hl => ?_)
  have lp4 : ∀ (fuel : Nat) (k : Nat) (H : Heap) (locs : List Loc) (ls : Array Slot), (k ≤ cr) → cr - k < fuel → va_P (dC, dI) zcl [(md, .inr (3, [.int th, .int (nI n), .ref bw, .ref bf, .ref bv, .ref bz, .int (nI kn), .ref bsp, .ref bdt, .ref bdr, .ref bhd, .ref bmv, .ref bod, .int (nI pl), .int (nI cr), .int (nI tk)])), (bhd, .inl (cI, 16, .inl hd))] H → va_D A [(md, .inr (3, [.int th, .int (nI n), .ref bw, .ref bf, .ref bv, .ref bz, .int (nI kn), .ref bsp, .ref bdt, .ref bdr, .ref bhd, .ref bmv, .ref bod, .int (nI pl), .int (nI cr), .int (nI tk)])), (bhd, .inl (cI, 16, .inl hd))] → va_S A s.heap H locs → lv_has ls 4 [(3, .int (nI k)), (2, .int (nI k)), (0, .ref md), (1, .int (nI 1))] → W p l e ({ frames := 0, cells := 0, slots := 0, locals := 0 } : Room) s m [.ref md, .int (nI 1)].toArray below meth c H locs 0 0 (MQ below (va_Qi (fun (r : Int32) (u : va_W) => r = nI cr ∧ u = [(md, .inr (3, [.int th, .int (nI n), .ref bw, .ref bf, .ref bv, .ref bz, .int (nI kn), .ref bsp, .ref bdt, .ref bdr, .ref bhd, .ref bmv, .ref bod, .int (nI pl), .int (nI cr), .int (nI tk)])), (bhd, .inl (cI, 16, .inl hd))]) (zAt (dC, dI) zcl [(cI, .int), (cJ, .long), (cZ, .boolean)] A) A) [.ref md, .int (nI 1)].toArray s 0 0 A) (F0 m 4 ls []) := by
    intro fuel
    induction fuel with
    | zero => intro k H locs ls hk hf; exact absurd hf (Nat.not_lt_zero _)
    | succ fuel ih =>
      intro k H locs ls hk hf hP hD hS hl
      refine lv_iload_n hx hb zd_M_movers_4 rfl (lv_at hl 0 rfl) ?_
      refine lv_aload_n hx hb zd_M_movers_5 rfl (lv_at hl 2 rfl) ?_
      refine va_get (D := (dC, dI)) (ci := 3) (v := .int (nI cr)) (C := zR_M) (T := zF_M) (N := 16) hx hb htz zi_M hown hK hP 0 rfl rfl 14 (by decide) (htz _ zq_473) (fun _ h9 => h9) rfl zd_M_movers_6 ?_
      refine lv_icmp_ge (tgt := 40) hx hb zd_M_movers_9 (by decide) (fun c1_ => ?_) (fun c1_ => ?_)
      · have hk2 : k = cr := Nat.le_antisymm hk (Nat.le_of_not_lt (fun h => nI_ge h (by omega) c1_))
        refine lv_iload_n hx hb zd_M_movers_40 rfl (lv_at hl 1 rfl) ?_
        exact z_iret hx hb hr hlocks hP hK hD hS zd_M_movers_41 (by decide) (by decide) ⟨by rw [hk2], rfl⟩
      · have hk2 : k < cr := Nat.lt_of_not_le (fun h => c1_ (nI_le h (by omega)))
        refine lv_iload_n hx hb zd_M_movers_12 rfl (lv_at hl 3 rfl) ?_
        refine lv_if_ne (tgt := 26) hx hb zd_M_movers_13 (by decide) (fun _ => ?_) (fun c2_ => absurd c2_ (by decide))
        refine lv_iload_n hx hb zd_M_movers_26 rfl (lv_at hl 1 rfl) ?_
        refine lv_iconst (v := (nI 1)) hx hb zd_M_movers_27 (by decide) ?_
        refine lv_iadd hx hb zd_M_movers_28 ?_
        refine z_topi (y := (nI (k + 1))) (nI_add k 1) ?_
        refine lv_goto (tgt := 33) hx hb zd_M_movers_29 (by decide) ?_
        refine lv_istore_n (lv' := [(2, .int (nI (k + 1))), (3, .int (nI k)), (0, .ref md), (1, .int (nI 1))]) hx hb zd_M_movers_33 rfl hl (by decide) rfl (fun ls hl => ?_)
        refine lv_iinc (v := (nI (k + 1))) (lv' := [(3, .int (nI (k + 1))), (2, .int (nI (k + 1))), (0, .ref md), (1, .int (nI 1))]) hx hb zd_M_movers_34 hl (k := 1) rfl (nI_1 k) (by decide) rfl (fun ls hl => ?_)
        refine lv_goto (tgt := 4) hx hb zd_M_movers_37 (by decide) ?_
        exact ih (k + 1) _ _ _ (by omega) (by omega) hP hD hS hl
  exact lp4 _ 0 _ _ _ (Nat.zero_le _) (Nat.lt_succ_self _) hP hD hS hl
set_option maxHeartbeats 4000000 in
set_option maxRecDepth 100000 in
/--  -/
theorem k_Model_movers_0 (l : Launch) (dC : Nat → ClassId) (dI : Nat → Nat → Nat) (cI cJ cZ : ClassId) (md : Nat) (th : Int32) (n : Nat) (bw : Nat) (bf : Nat) (bv : Nat) (bz : Nat) (kn : Nat) (bsp : Nat) (bdt : Nat) (bdr : Nat) (bhd : Nat) (bmv : Nat) (bod : Nat) (pl : Nat) (cr : Nat) (tk : Nat) (hd : Nat → Int32) (hc : cr ≤ 16) (sz : Nat) : zMi l zy_M_movers zw_M_movers ({ frames := 0, cells := 0, slots := 0, locals := 0 }) [.ref md, .int (nI 0)] (dC, dI) zcl [(cI, .int), (cJ, .long), (cZ, .boolean)] [(md, .inr (3, [.int th, .int (nI n), .ref bw, .ref bf, .ref bv, .ref bz, .int (nI kn), .ref bsp, .ref bdt, .ref bdr, .ref bhd, .ref bmv, .ref bod, .int (nI pl), .int (nI cr), .int (nI tk)])), (bhd, .inl (cI, 16, .inl hd))] sz (fun (r : Int32) (u : va_W) => r = nI (zcnt hd cr) ∧ u = [(md, .inr (3, [.int th, .int (nI n), .ref bw, .ref bf, .ref bv, .ref bz, .int (nI kn), .ref bsp, .ref bdt, .ref bdr, .ref bhd, .ref bmv, .ref bod, .int (nI pl), .int (nI cr), .int (nI tk)])), (bhd, .inl (cI, 16, .inl hd))]) := by
  refine z_ofi (cc := zc_M_movers) (maxL := 4) (ret := (some .int)) (by decide) rfl (Nat.le_of_ble_eq_true rfl) ?_
  intro p e s m below meth c A ls hx hb hr hml hown htz hlocks hin hA hP hK hD hS hl
  have hown : s.vm.findClass zR_M = some m.cls := hown
  have hl : lv_has ls 4 [(0, .ref md), (1, .int (nI 0))] := hl
  refine lv_iconst (v := (nI 0)) hx hb zd_M_movers_0 (by decide) ?_
  refine lv_istore_n (lv' := [(2, .int (nI 0)), (0, .ref md), (1, .int (nI 0))]) hx hb zd_M_movers_1 rfl hl (by decide) rfl (fun ls hl => ?_)
  refine lv_iconst (v := (nI 0)) hx hb zd_M_movers_2 (by decide) ?_
  refine lv_istore_n (lv' := [(3, .int (nI 0)), (2, .int (nI 0)), (0, .ref md), (1, .int (nI 0))]) hx hb zd_M_movers_3 rfl hl (by decide) rfl (fun ls hl => ?_)
  have lp4 : ∀ (fuel : Nat) (k : Nat) (z9 : Nat) (H : Heap) (locs : List Loc) (ls : Array Slot), (k ≤ cr) → (zcnt hd k = z9) → cr - k < fuel → va_P (dC, dI) zcl [(md, .inr (3, [.int th, .int (nI n), .ref bw, .ref bf, .ref bv, .ref bz, .int (nI kn), .ref bsp, .ref bdt, .ref bdr, .ref bhd, .ref bmv, .ref bod, .int (nI pl), .int (nI cr), .int (nI tk)])), (bhd, .inl (cI, 16, .inl hd))] H → va_D A [(md, .inr (3, [.int th, .int (nI n), .ref bw, .ref bf, .ref bv, .ref bz, .int (nI kn), .ref bsp, .ref bdt, .ref bdr, .ref bhd, .ref bmv, .ref bod, .int (nI pl), .int (nI cr), .int (nI tk)])), (bhd, .inl (cI, 16, .inl hd))] → va_S A s.heap H locs → lv_has ls 4 [(3, .int (nI k)), (2, .int (nI z9)), (0, .ref md), (1, .int (nI 0))] → W p l e ({ frames := 0, cells := 0, slots := 0, locals := 0 } : Room) s m [.ref md, .int (nI 0)].toArray below meth c H locs 0 0 (MQ below (va_Qi (fun (r : Int32) (u : va_W) => r = nI (zcnt hd cr) ∧ u = [(md, .inr (3, [.int th, .int (nI n), .ref bw, .ref bf, .ref bv, .ref bz, .int (nI kn), .ref bsp, .ref bdt, .ref bdr, .ref bhd, .ref bmv, .ref bod, .int (nI pl), .int (nI cr), .int (nI tk)])), (bhd, .inl (cI, 16, .inl hd))]) (zAt (dC, dI) zcl [(cI, .int), (cJ, .long), (cZ, .boolean)] A) A) [.ref md, .int (nI 0)].toArray s 0 0 A) (F0 m 4 ls []) := by
    intro fuel
    induction fuel with
    | zero => intro k z9 H locs ls hk hz hf; exact absurd hf (Nat.not_lt_zero _)
    | succ fuel ih =>
      intro k z9 H locs ls hk hz hf hP hD hS hl
      refine lv_iload_n hx hb zd_M_movers_4 rfl (lv_at hl 0 rfl) ?_
      refine lv_aload_n hx hb zd_M_movers_5 rfl (lv_at hl 2 rfl) ?_
      refine va_get (D := (dC, dI)) (ci := 3) (v := .int (nI cr)) (C := zR_M) (T := zF_M) (N := 16) hx hb htz zi_M hown hK hP 0 rfl rfl 14 (by decide) (htz _ zq_473) (fun _ h9 => h9) rfl zd_M_movers_6 ?_
      refine lv_icmp_ge (tgt := 40) hx hb zd_M_movers_9 (by decide) (fun c1_ => ?_) (fun c1_ => ?_)
      · have hk2 : k = cr := Nat.le_antisymm hk (Nat.le_of_not_lt (fun h => nI_ge h (by omega) c1_))
        refine lv_iload_n hx hb zd_M_movers_40 rfl (lv_at hl 1 rfl) ?_
        exact z_iret hx hb hr hlocks hP hK hD hS zd_M_movers_41 (by decide) (by decide) ⟨by rw [← hz, hk2], rfl⟩
      · have hk2 : k < cr := Nat.lt_of_not_le (fun h => c1_ (nI_le h (by omega)))
        refine lv_iload_n hx hb zd_M_movers_12 rfl (lv_at hl 3 rfl) ?_
        refine lv_if_ne (tgt := 26) hx hb zd_M_movers_13 (by decide) (fun c2_ => absurd (by decide) c2_) (fun _ => ?_)
        refine lv_aload_n hx hb zd_M_movers_16 rfl (lv_at hl 2 rfl) ?_
        refine va_get (D := (dC, dI)) (ci := 3) (v := .ref bhd) (C := zR_M) (T := zF_M) (N := 16) hx hb htz zi_M hown hK hP 0 rfl rfl 10 (by decide) (htz _ zq_469) (fun _ h9 => h9) rfl zd_M_movers_17 ?_
        refine lv_iload_n hx hb zd_M_movers_20 rfl (lv_at hl 0 rfl) ?_
        refine z_iald hx hb hK hP 1 0 rfl rfl (j := k) (by omega) (by decide) zd_M_movers_21 ?_
        refine lv_iconst (v := (-1)) hx hb zd_M_movers_22 (by decide) ?_
        refine lv_icmp_eq (tgt := 32) hx hb zd_M_movers_23 (by decide) (fun c3_ => ?_) (fun c3_ => ?_)
        · have hz2 : zcnt hd (k + 1) = z9 := by rw [zcnt_stay c3_, hz]
          refine lv_iload_n hx hb zd_M_movers_32 rfl (lv_at hl 1 rfl) ?_
          refine lv_istore_n (lv' := [(2, .int (nI z9)), (3, .int (nI k)), (0, .ref md), (1, .int (nI 0))]) hx hb zd_M_movers_33 rfl hl (by decide) rfl (fun ls hl => ?_)
          refine lv_iinc (v := (nI (k + 1))) (lv' := [(3, .int (nI (k + 1))), (2, .int (nI z9)), (0, .ref md), (1, .int (nI 0))]) hx hb zd_M_movers_34 hl (k := 1) rfl (nI_1 k) (by decide) rfl (fun ls hl => ?_)
          refine lv_goto (tgt := 4) hx hb zd_M_movers_37 (by decide) ?_
          exact ih (k + 1) z9 _ _ _ (by omega) hz2 (by omega) hP hD hS hl
        · have hz2 : zcnt hd (k + 1) = z9 + 1 := by rw [zcnt_step c3_, hz]
          refine lv_iload_n hx hb zd_M_movers_26 rfl (lv_at hl 1 rfl) ?_
          refine lv_iconst (v := (nI 1)) hx hb zd_M_movers_27 (by decide) ?_
          refine lv_iadd hx hb zd_M_movers_28 ?_
          refine z_topi (y := (nI (z9 + 1))) (nI_add z9 1) ?_
          refine lv_goto (tgt := 33) hx hb zd_M_movers_29 (by decide) ?_
          refine lv_istore_n (lv' := [(2, .int (nI (z9 + 1))), (3, .int (nI k)), (0, .ref md), (1, .int (nI 0))]) hx hb zd_M_movers_33 rfl hl (by decide) rfl (fun ls hl => ?_)
          refine lv_iinc (v := (nI (k + 1))) (lv' := [(3, .int (nI (k + 1))), (2, .int (nI (z9 + 1))), (0, .ref md), (1, .int (nI 0))]) hx hb zd_M_movers_34 hl (k := 1) rfl (nI_1 k) (by decide) rfl (fun ls hl => ?_)
          refine lv_goto (tgt := 4) hx hb zd_M_movers_37 (by decide) ?_
          exact ih (k + 1) (z9 + 1) _ _ _ (by omega) hz2 (by omega) hP hD hS hl
  exact lp4 _ 0 0 _ _ _ (Nat.zero_le _) rfl (Nat.lt_succ_self _) hP hD hS hl
set_option maxHeartbeats 4000000 in
set_option maxRecDepth 100000 in
/--  -/
theorem k_Model_mover_1 (l : Launch) (dC : Nat → ClassId) (dI : Nat → Nat → Nat) (cI cJ cZ : ClassId) (md : Nat) (th : Int32) (n : Nat) (bw : Nat) (bf : Nat) (bv : Nat) (bz : Nat) (kn : Nat) (bsp : Nat) (bdt : Nat) (bdr : Nat) (bhd : Nat) (bmv : Nat) (bod : Nat) (pl : Nat) (cr : Nat) (tk : Nat) (hd : Nat → Int32) (q : Nat) (hc : cr ≤ 16) (hq : q < cr) (sz : Nat) : zMi l zy_M_mover zw_M_mover ({ frames := 0, cells := 0, slots := 0, locals := 0 }) [.ref md, .int (nI q), .int (nI 1)] (dC, dI) zcl [(cI, .int), (cJ, .long), (cZ, .boolean)] [(md, .inr (3, [.int th, .int (nI n), .ref bw, .ref bf, .ref bv, .ref bz, .int (nI kn), .ref bsp, .ref bdt, .ref bdr, .ref bhd, .ref bmv, .ref bod, .int (nI pl), .int (nI cr), .int (nI tk)])), (bhd, .inl (cI, 16, .inl hd))] sz (fun (r : Int32) (u : va_W) => r = nI q ∧ u = [(md, .inr (3, [.int th, .int (nI n), .ref bw, .ref bf, .ref bv, .ref bz, .int (nI kn), .ref bsp, .ref bdt, .ref bdr, .ref bhd, .ref bmv, .ref bod, .int (nI pl), .int (nI cr), .int (nI tk)])), (bhd, .inl (cI, 16, .inl hd))]) := by
  refine z_ofi (cc := zc_M_mover) (maxL := 6) (ret := (some .int)) (by decide) rfl (Nat.le_of_ble_eq_true rfl) ?_
  intro p e s m below meth c A ls hx hb hr hml hown htz hlocks hin hA hP hK hD hS hl
  have hown : s.vm.findClass zR_M = some m.cls := hown
  have hl : lv_has ls 6 [(0, .ref md), (1, .int (nI q)), (2, .int (nI 1))] := hl
  refine lv_iload_n hx hb zd_M_mover_0 rfl (lv_at hl 1 rfl) ?_
  refine lv_istore_n (lv' := [(3, .int (nI q)), (0, .ref md), (1, .int (nI q)), (2, .int (nI 1))]) hx hb zd_M_mover_1 rfl hl (by decide) rfl (fun ls hl => ?_)
  refine lv_iconst (v := (nI 0)) hx hb zd_M_mover_2 (by decide) ?_
  refine lv_istore (lv' := [(4, .int (nI 0)), (3, .int (nI q)), (0, .ref md), (1, .int (nI q)), (2, .int (nI 1))]) hx hb zd_M_mover_3 hl (by decide) rfl (fun ls hl => ?_)
  have lp5 : ∀ (fuel : Nat) (k : Nat) (lf : Nat) (H : Heap) (locs : List Loc) (ls : Array Slot), (k ≤ cr) → (lf + k = q) → cr - k < fuel → va_P (dC, dI) zcl [(md, .inr (3, [.int th, .int (nI n), .ref bw, .ref bf, .ref bv, .ref bz, .int (nI kn), .ref bsp, .ref bdt, .ref bdr, .ref bhd, .ref bmv, .ref bod, .int (nI pl), .int (nI cr), .int (nI tk)])), (bhd, .inl (cI, 16, .inl hd))] H → va_D A [(md, .inr (3, [.int th, .int (nI n), .ref bw, .ref bf, .ref bv, .ref bz, .int (nI kn), .ref bsp, .ref bdt, .ref bdr, .ref bhd, .ref bmv, .ref bod, .int (nI pl), .int (nI cr), .int (nI tk)])), (bhd, .inl (cI, 16, .inl hd))] → va_S A s.heap H locs → lv_has ls 6 [(4, .int (nI k)), (3, .int (nI lf)), (0, .ref md), (1, .int (nI q)), (2, .int (nI 1))] → W p l e ({ frames := 0, cells := 0, slots := 0, locals := 0 } : Room) s m [.ref md, .int (nI q), .int (nI 1)].toArray below meth c H locs 0 0 (MQ below (va_Qi (fun (r : Int32) (u : va_W) => r = nI q ∧ u = [(md, .inr (3, [.int th, .int (nI n), .ref bw, .ref bf, .ref bv, .ref bz, .int (nI kn), .ref bsp, .ref bdt, .ref bdr, .ref bhd, .ref bmv, .ref bod, .int (nI pl), .int (nI cr), .int (nI tk)])), (bhd, .inl (cI, 16, .inl hd))]) (zAt (dC, dI) zcl [(cI, .int), (cJ, .long), (cZ, .boolean)] A) A) [.ref md, .int (nI q), .int (nI 1)].toArray s 0 0 A) (F0 m 5 ls []) := by
    intro fuel
    induction fuel with
    | zero => intro k lf H locs ls hk hlf hf; exact absurd hf (Nat.not_lt_zero _)
    | succ fuel ih =>
      intro k lf H locs ls hk hlf hf hP hD hS hl
      refine lv_iload hx hb zd_M_mover_5 (lv_at hl 0 rfl) ?_
      refine lv_aload_n hx hb zd_M_mover_7 rfl (lv_at hl 2 rfl) ?_
      refine va_get (D := (dC, dI)) (ci := 3) (v := .int (nI cr)) (C := zR_M) (T := zF_M) (N := 16) hx hb htz zi_M hown hK hP 0 rfl rfl 14 (by decide) (htz _ zq_473) (fun _ h9 => h9) rfl zd_M_mover_8 ?_
      refine lv_icmp_ge (tgt := 67) hx hb zd_M_mover_11 (by decide) (fun c1_ => ?_) (fun c1_ => ?_)
      · have hk2 : k = cr := Nat.le_antisymm hk (Nat.le_of_not_lt (fun h => nI_ge h (by omega) c1_))
        exfalso
        rw [hk2] at hlf
        omega
      · have hk2 : k < cr := Nat.lt_of_not_le (fun h => c1_ (nI_le h (by omega)))
        refine lv_iload_n hx hb zd_M_mover_14 rfl (lv_at hl 4 rfl) ?_
        refine lv_if_ne (tgt := 29) hx hb zd_M_mover_15 (by decide) (fun _ => ?_) (fun c2_ => absurd c2_ (by decide))
        refine lv_iconst (v := (nI 1)) hx hb zd_M_mover_29 (by decide) ?_
        refine lv_goto (tgt := 34) hx hb zd_M_mover_30 (by decide) ?_
        refine lv_istore (lv' := [(5, .int (nI 1)), (4, .int (nI k)), (3, .int (nI lf)), (0, .ref md), (1, .int (nI q)), (2, .int (nI 1))]) hx hb zd_M_mover_34 hl (by decide) rfl (fun ls hl => ?_)
        refine lv_iload hx hb zd_M_mover_36 (lv_at hl 0 rfl) ?_
        refine lv_if_eq (tgt := 48) hx hb zd_M_mover_38 (by decide) (fun c3_ => absurd c3_ (by decide)) (fun _ => ?_)
        refine lv_iload_n hx hb zd_M_mover_41 rfl (lv_at hl 2 rfl) ?_
        refine lv_if_ne (tgt := 48) hx hb zd_M_mover_42 (by decide) (fun c4_ => ?_) (fun c4_ => ?_)
        · have hl0 : 0 < lf := Nat.pos_of_ne_zero (fun h => c4_ (by rw [h]; rfl))
          refine lv_iload hx hb zd_M_mover_48 (lv_at hl 0 rfl) ?_
          refine lv_if_eq (tgt := 59) hx hb zd_M_mover_50 (by decide) (fun c5_ => absurd c5_ (by decide)) (fun _ => ?_)
          refine lv_iload_n hx hb zd_M_mover_53 rfl (lv_at hl 2 rfl) ?_
          refine lv_iconst (v := (nI 1)) hx hb zd_M_mover_54 (by decide) ?_
          refine lv_isub hx hb zd_M_mover_55 ?_
          refine z_topi (y := nI (lf - 1)) (pk_sub hl0) ?_
          refine lv_goto (tgt := 60) hx hb zd_M_mover_56 (by decide) ?_
          refine lv_istore_n (lv' := [(3, .int (nI (lf - 1))), (5, .int (nI 1)), (4, .int (nI k)), (0, .ref md), (1, .int (nI q)), (2, .int (nI 1))]) hx hb zd_M_mover_60 rfl hl (by decide) rfl (fun ls hl => ?_)
          refine lv_iinc (v := (nI (k + 1))) (lv' := [(4, .int (nI (k + 1))), (3, .int (nI (lf - 1))), (5, .int (nI 1)), (0, .ref md), (1, .int (nI q)), (2, .int (nI 1))]) hx hb zd_M_mover_61 hl (k := 2) rfl (nI_1 k) (by decide) rfl (fun ls hl => ?_)
          refine lv_goto (tgt := 5) hx hb zd_M_mover_64 (by decide) ?_
          exact ih (k + 1) (lf - 1) _ _ _ (by omega) (by omega) (by omega) hP hD hS (lv_sub hl [0, 1, 3, 4, 5] rfl)
        · have hl0 : lf = 0 := (nI_eq (b := 0) (by omega) (by decide)).mp c4_
          refine lv_iload hx hb zd_M_mover_45 (lv_at hl 1 rfl) ?_
          exact z_iret hx hb hr hlocks hP hK hD hS zd_M_mover_47 (by decide) (by decide) ⟨by rw [show k = q by omega], rfl⟩
  exact lp5 _ 0 q _ _ _ (Nat.zero_le _) rfl (Nat.lt_succ_self _) hP hD hS hl
set_option maxHeartbeats 4000000 in
set_option maxRecDepth 100000 in
/--  -/
theorem k_Model_mover_0 (l : Launch) (dC : Nat → ClassId) (dI : Nat → Nat → Nat) (cI cJ cZ : ClassId) (md : Nat) (th : Int32) (n : Nat) (bw : Nat) (bf : Nat) (bv : Nat) (bz : Nat) (kn : Nat) (bsp : Nat) (bdt : Nat) (bdr : Nat) (bhd : Nat) (bmv : Nat) (bod : Nat) (pl : Nat) (cr : Nat) (tk : Nat) (hd : Nat → Int32) (q : Nat) (hc : cr ≤ 16) (hq : q < zcnt hd cr) (sz : Nat) : zMi l zy_M_mover zw_M_mover ({ frames := 0, cells := 0, slots := 0, locals := 0 }) [.ref md, .int (nI q), .int (nI 0)] (dC, dI) zcl [(cI, .int), (cJ, .long), (cZ, .boolean)] [(md, .inr (3, [.int th, .int (nI n), .ref bw, .ref bf, .ref bv, .ref bz, .int (nI kn), .ref bsp, .ref bdt, .ref bdr, .ref bhd, .ref bmv, .ref bod, .int (nI pl), .int (nI cr), .int (nI tk)])), (bhd, .inl (cI, 16, .inl hd))] sz (fun (r : Int32) (u : va_W) => r = nI (zth hd cr 0 q) ∧ u = [(md, .inr (3, [.int th, .int (nI n), .ref bw, .ref bf, .ref bv, .ref bz, .int (nI kn), .ref bsp, .ref bdt, .ref bdr, .ref bhd, .ref bmv, .ref bod, .int (nI pl), .int (nI cr), .int (nI tk)])), (bhd, .inl (cI, 16, .inl hd))]) := by
  refine z_ofi (cc := zc_M_mover) (maxL := 6) (ret := (some .int)) (by decide) rfl (Nat.le_of_ble_eq_true rfl) ?_
  intro p e s m below meth c A ls hx hb hr hml hown htz hlocks hin hA hP hK hD hS hl
  have hown : s.vm.findClass zR_M = some m.cls := hown
  have hl : lv_has ls 6 [(0, .ref md), (1, .int (nI q)), (2, .int (nI 0))] := hl
  refine lv_iload_n hx hb zd_M_mover_0 rfl (lv_at hl 1 rfl) ?_
  refine lv_istore_n (lv' := [(3, .int (nI q)), (0, .ref md), (1, .int (nI q)), (2, .int (nI 0))]) hx hb zd_M_mover_1 rfl hl (by decide) rfl (fun ls hl => ?_)
  refine lv_iconst (v := (nI 0)) hx hb zd_M_mover_2 (by decide) ?_
  refine lv_istore (lv' := [(4, .int (nI 0)), (3, .int (nI q)), (0, .ref md), (1, .int (nI q)), (2, .int (nI 0))]) hx hb zd_M_mover_3 hl (by decide) rfl (fun ls hl => ?_)
  have lp5 : ∀ (fuel : Nat) (k : Nat) (lf : Nat) (H : Heap) (locs : List Loc) (ls : Array Slot), (k ≤ cr) → (lf + zcnt hd k = q) → cr - k < fuel → va_P (dC, dI) zcl [(md, .inr (3, [.int th, .int (nI n), .ref bw, .ref bf, .ref bv, .ref bz, .int (nI kn), .ref bsp, .ref bdt, .ref bdr, .ref bhd, .ref bmv, .ref bod, .int (nI pl), .int (nI cr), .int (nI tk)])), (bhd, .inl (cI, 16, .inl hd))] H → va_D A [(md, .inr (3, [.int th, .int (nI n), .ref bw, .ref bf, .ref bv, .ref bz, .int (nI kn), .ref bsp, .ref bdt, .ref bdr, .ref bhd, .ref bmv, .ref bod, .int (nI pl), .int (nI cr), .int (nI tk)])), (bhd, .inl (cI, 16, .inl hd))] → va_S A s.heap H locs → lv_has ls 6 [(4, .int (nI k)), (3, .int (nI lf)), (0, .ref md), (1, .int (nI q)), (2, .int (nI 0))] → W p l e ({ frames := 0, cells := 0, slots := 0, locals := 0 } : Room) s m [.ref md, .int (nI q), .int (nI 0)].toArray below meth c H locs 0 0 (MQ below (va_Qi (fun (r : Int32) (u : va_W) => r = nI (zth hd cr 0 q) ∧ u = [(md, .inr (3, [.int th, .int (nI n), .ref bw, .ref bf, .ref bv, .ref bz, .int (nI kn), .ref bsp, .ref bdt, .ref bdr, .ref bhd, .ref bmv, .ref bod, .int (nI pl), .int (nI cr), .int (nI tk)])), (bhd, .inl (cI, 16, .inl hd))]) (zAt (dC, dI) zcl [(cI, .int), (cJ, .long), (cZ, .boolean)] A) A) [.ref md, .int (nI q), .int (nI 0)].toArray s 0 0 A) (F0 m 5 ls []) := by
    intro fuel
    induction fuel with
    | zero => intro k lf H locs ls hk hlf hf; exact absurd hf (Nat.not_lt_zero _)
    | succ fuel ih =>
      intro k lf H locs ls hk hlf hf hP hD hS hl
      have hcl := zcnt_le hd cr
      refine lv_iload hx hb zd_M_mover_5 (lv_at hl 0 rfl) ?_
      refine lv_aload_n hx hb zd_M_mover_7 rfl (lv_at hl 2 rfl) ?_
      refine va_get (D := (dC, dI)) (ci := 3) (v := .int (nI cr)) (C := zR_M) (T := zF_M) (N := 16) hx hb htz zi_M hown hK hP 0 rfl rfl 14 (by decide) (htz _ zq_473) (fun _ h9 => h9) rfl zd_M_mover_8 ?_
      refine lv_icmp_ge (tgt := 67) hx hb zd_M_mover_11 (by decide) (fun c1_ => ?_) (fun c1_ => ?_)
      · have hk2 : k = cr := Nat.le_antisymm hk (Nat.le_of_not_lt (fun h => nI_ge h (by omega) c1_))
        exfalso
        rw [hk2] at hlf
        omega
      · have hk2 : k < cr := Nat.lt_of_not_le (fun h => c1_ (nI_le h (by omega)))
        refine lv_iload_n hx hb zd_M_mover_14 rfl (lv_at hl 4 rfl) ?_
        refine lv_if_ne (tgt := 29) hx hb zd_M_mover_15 (by decide) (fun c2_ => absurd (by decide) c2_) (fun _ => ?_)
        refine lv_aload_n hx hb zd_M_mover_18 rfl (lv_at hl 2 rfl) ?_
        refine va_get (D := (dC, dI)) (ci := 3) (v := .ref bhd) (C := zR_M) (T := zF_M) (N := 16) hx hb htz zi_M hown hK hP 0 rfl rfl 10 (by decide) (htz _ zq_469) (fun _ h9 => h9) rfl zd_M_mover_19 ?_
        refine lv_iload hx hb zd_M_mover_22 (lv_at hl 0 rfl) ?_
        refine z_iald hx hb hK hP 1 0 rfl rfl (j := k) (by omega) (by decide) zd_M_mover_24 ?_
        refine lv_iconst (v := (-1)) hx hb zd_M_mover_25 (by decide) ?_
        refine lv_icmp_eq (tgt := 33) hx hb zd_M_mover_26 (by decide) (fun c3_ => ?_) (fun c3_ => ?_)
        · have hs9 := zcnt_stay (f := hd) c3_
          refine lv_iconst (v := (nI 0)) hx hb zd_M_mover_33 (by decide) ?_
          refine lv_istore (lv' := [(5, .int (nI 0)), (4, .int (nI k)), (3, .int (nI lf)), (0, .ref md), (1, .int (nI q)), (2, .int (nI 0))]) hx hb zd_M_mover_34 hl (by decide) rfl (fun ls hl => ?_)
          refine lv_iload hx hb zd_M_mover_36 (lv_at hl 0 rfl) ?_
          refine lv_if_eq (tgt := 48) hx hb zd_M_mover_38 (by decide) (fun _ => ?_) (fun c4_ => absurd (by decide) c4_)
          refine lv_iload hx hb zd_M_mover_48 (lv_at hl 0 rfl) ?_
          refine lv_if_eq (tgt := 59) hx hb zd_M_mover_50 (by decide) (fun _ => ?_) (fun c5_ => absurd (by decide) c5_)
          refine lv_iload_n hx hb zd_M_mover_59 rfl (lv_at hl 2 rfl) ?_
          refine lv_istore_n (lv' := [(3, .int (nI lf)), (5, .int (nI 0)), (4, .int (nI k)), (0, .ref md), (1, .int (nI q)), (2, .int (nI 0))]) hx hb zd_M_mover_60 rfl hl (by decide) rfl (fun ls hl => ?_)
          refine lv_iinc (v := (nI (k + 1))) (lv' := [(4, .int (nI (k + 1))), (3, .int (nI lf)), (5, .int (nI 0)), (0, .ref md), (1, .int (nI q)), (2, .int (nI 0))]) hx hb zd_M_mover_61 hl (k := 2) rfl (nI_1 k) (by decide) rfl (fun ls hl => ?_)
          refine lv_goto (tgt := 5) hx hb zd_M_mover_64 (by decide) ?_
          exact ih (k + 1) lf _ _ _ (by omega) (by omega) (by omega) hP hD hS (lv_sub hl [0, 1, 3, 4, 5] rfl)
        · have hne := c3_
          have hs9 := zcnt_step (f := hd) c3_
          refine lv_iconst (v := (nI 1)) hx hb zd_M_mover_29 (by decide) ?_
          refine lv_goto (tgt := 34) hx hb zd_M_mover_30 (by decide) ?_
          refine lv_istore (lv' := [(5, .int (nI 1)), (4, .int (nI k)), (3, .int (nI lf)), (0, .ref md), (1, .int (nI q)), (2, .int (nI 0))]) hx hb zd_M_mover_34 hl (by decide) rfl (fun ls hl => ?_)
          refine lv_iload hx hb zd_M_mover_36 (lv_at hl 0 rfl) ?_
          refine lv_if_eq (tgt := 48) hx hb zd_M_mover_38 (by decide) (fun c6_ => absurd c6_ (by decide)) (fun _ => ?_)
          refine lv_iload_n hx hb zd_M_mover_41 rfl (lv_at hl 2 rfl) ?_
          refine lv_if_ne (tgt := 48) hx hb zd_M_mover_42 (by decide) (fun c7_ => ?_) (fun c7_ => ?_)
          · have hl0 : 0 < lf := Nat.pos_of_ne_zero (fun h => c7_ (by rw [h]; rfl))
            refine lv_iload hx hb zd_M_mover_48 (lv_at hl 0 rfl) ?_
            refine lv_if_eq (tgt := 59) hx hb zd_M_mover_50 (by decide) (fun c8_ => absurd c8_ (by decide)) (fun _ => ?_)
            refine lv_iload_n hx hb zd_M_mover_53 rfl (lv_at hl 2 rfl) ?_
            refine lv_iconst (v := (nI 1)) hx hb zd_M_mover_54 (by decide) ?_
            refine lv_isub hx hb zd_M_mover_55 ?_
            refine z_topi (y := nI (lf - 1)) (pk_sub hl0) ?_
            refine lv_goto (tgt := 60) hx hb zd_M_mover_56 (by decide) ?_
            refine lv_istore_n (lv' := [(3, .int (nI (lf - 1))), (5, .int (nI 1)), (4, .int (nI k)), (0, .ref md), (1, .int (nI q)), (2, .int (nI 0))]) hx hb zd_M_mover_60 rfl hl (by decide) rfl (fun ls hl => ?_)
            refine lv_iinc (v := (nI (k + 1))) (lv' := [(4, .int (nI (k + 1))), (3, .int (nI (lf - 1))), (5, .int (nI 1)), (0, .ref md), (1, .int (nI q)), (2, .int (nI 0))]) hx hb zd_M_mover_61 hl (k := 2) rfl (nI_1 k) (by decide) rfl (fun ls hl => ?_)
            refine lv_goto (tgt := 5) hx hb zd_M_mover_64 (by decide) ?_
            exact ih (k + 1) (lf - 1) _ _ _ (by omega) (by omega) (by omega) hP hD hS (lv_sub hl [0, 1, 3, 4, 5] rfl)
          · have hl0 : lf = 0 := (nI_eq (b := 0) (by omega) (by decide)).mp c7_
            refine lv_iload hx hb zd_M_mover_45 (lv_at hl 1 rfl) ?_
            exact z_iret hx hb hr hlocks hP hK hD hS zd_M_mover_47 (by decide) (by decide) ⟨by rw [zth_is hk2 hne (by omega)], rfl⟩
  exact lp5 _ 0 q _ _ _ (Nat.zero_le _) rfl (Nat.lt_succ_self _) hP hD hS hl
set_option maxHeartbeats 4000000 in
set_option maxRecDepth 100000 in
/--  -/
theorem k_Model_winner (l : Launch) (dC : Nat → ClassId) (dI : Nat → Nat → Nat) (cI cJ cZ : ClassId) (md : Nat) (th : Int32) (n : Nat) (bw : Nat) (bf : Nat) (bv : Nat) (bz : Nat) (kn : Nat) (bsp : Nat) (bdt : Nat) (bdr : Nat) (bhd : Nat) (bmv : Nat) (bod : Nat) (pl : Nat) (cr : Nat) (tk : Nat) (se : Nat → Int32) (hn : n ≤ 16) (sz : Nat) : zMi l zy_M_winner zw_M_winner ({ frames := 0, cells := 0, slots := 0, locals := 0 }) [.ref md] (dC, dI) zcl [(cI, .int), (cJ, .long), (cZ, .boolean)] [(md, .inr (3, [.int th, .int (nI n), .ref bw, .ref bf, .ref bv, .ref bz, .int (nI kn), .ref bsp, .ref bdt, .ref bdr, .ref bhd, .ref bmv, .ref bod, .int (nI pl), .int (nI cr), .int (nI tk)])), (bz, .inl (cZ, 16, .inl se))] sz (fun (r : Int32) (u : va_W) => (r = nI (zwin se n) ∧ u = [(md, .inr (3, [.int th, .int (nI n), .ref bw, .ref bf, .ref bv, .ref bz, .int (nI kn), .ref bsp, .ref bdt, .ref bdr, .ref bhd, .ref bmv, .ref bod, .int (nI pl), .int (nI cr), .int (nI tk)])), (bz, .inl (cZ, 16, .inl se))] ∧ zwin se n < n) ∨ (r = (-1) ∧ u = [(md, .inr (3, [.int th, .int (nI n), .ref bw, .ref bf, .ref bv, .ref bz, .int (nI kn), .ref bsp, .ref bdt, .ref bdr, .ref bhd, .ref bmv, .ref bod, .int (nI pl), .int (nI cr), .int (nI tk)])), (bz, .inl (cZ, 16, .inl se))] ∧ zwin se n = n)) := by
  refine z_ofi (cc := zc_M_winner) (maxL := 2) (ret := (some .int)) (by decide) rfl (Nat.le_of_ble_eq_true rfl) ?_
  intro p e s m below meth c A ls hx hb hr hml hown htz hlocks hin hA hP hK hD hS hl
  have hown : s.vm.findClass zR_M = some m.cls := hown
  have hl : lv_has ls 2 [(0, .ref md)] := hl
  refine lv_iconst (v := (nI 0)) hx hb zd_M_winner_0 (by decide) ?_
  refine lv_istore_n (lv' := [(1, .int (nI 0)), (0, .ref md)]) hx hb zd_M_winner_1 rfl hl (by decide) rfl (fun ls hl => ?_)
  have lp2 : ∀ (fuel : Nat) (k : Nat) (H : Heap) (locs : List Loc) (ls : Array Slot), (k ≤ n) → (∀ q, q < k → se q = 0) → n - k < fuel → va_P (dC, dI) zcl [(md, .inr (3, [.int th, .int (nI n), .ref bw, .ref bf, .ref bv, .ref bz, .int (nI kn), .ref bsp, .ref bdt, .ref bdr, .ref bhd, .ref bmv, .ref bod, .int (nI pl), .int (nI cr), .int (nI tk)])), (bz, .inl (cZ, 16, .inl se))] H → va_D A [(md, .inr (3, [.int th, .int (nI n), .ref bw, .ref bf, .ref bv, .ref bz, .int (nI kn), .ref bsp, .ref bdt, .ref bdr, .ref bhd, .ref bmv, .ref bod, .int (nI pl), .int (nI cr), .int (nI tk)])), (bz, .inl (cZ, 16, .inl se))] → va_S A s.heap H locs → lv_has ls 2 [(1, .int (nI k)), (0, .ref md)] → W p l e ({ frames := 0, cells := 0, slots := 0, locals := 0 } : Room) s m [.ref md].toArray below meth c H locs 0 0 (MQ below (va_Qi (fun (r : Int32) (u : va_W) => (r = nI (zwin se n) ∧ u = [(md, .inr (3, [.int th, .int (nI n), .ref bw, .ref bf, .ref bv, .ref bz, .int (nI kn), .ref bsp, .ref bdt, .ref bdr, .ref bhd, .ref bmv, .ref bod, .int (nI pl), .int (nI cr), .int (nI tk)])), (bz, .inl (cZ, 16, .inl se))] ∧ zwin se n < n) ∨ (r = (-1) ∧ u = [(md, .inr (3, [.int th, .int (nI n), .ref bw, .ref bf, .ref bv, .ref bz, .int (nI kn), .ref bsp, .ref bdt, .ref bdr, .ref bhd, .ref bmv, .ref bod, .int (nI pl), .int (nI cr), .int (nI tk)])), (bz, .inl (cZ, 16, .inl se))] ∧ zwin se n = n)) (zAt (dC, dI) zcl [(cI, .int), (cJ, .long), (cZ, .boolean)] A) A) [.ref md].toArray s 0 0 A) (F0 m 2 ls []) := by
    intro fuel
    induction fuel with
    | zero => intro k H locs ls hk hz hf; exact absurd hf (Nat.not_lt_zero _)
    | succ fuel ih =>
      intro k H locs ls hk hz hf hP hD hS hl
      refine lv_iload_n hx hb zd_M_winner_2 rfl (lv_at hl 0 rfl) ?_
      refine lv_aload_n hx hb zd_M_winner_3 rfl (lv_at hl 1 rfl) ?_
      refine va_get (D := (dC, dI)) (ci := 3) (v := .int (nI n)) (C := zR_M) (T := zF_M) (N := 16) hx hb htz zi_M hown hK hP 0 rfl rfl 1 (by decide) (htz _ zq_460) (fun _ h9 => h9) rfl zd_M_winner_4 ?_
      refine lv_icmp_ge (tgt := 27) hx hb zd_M_winner_7 (by decide) (fun c1_ => ?_) (fun c1_ => ?_)
      · have hk2 : k = n := Nat.le_antisymm hk (Nat.le_of_not_lt (fun h => nI_ge h (by omega) c1_))
        subst hk2
        have hw9 := zwin_no hz
        refine lv_iconst (v := (-1)) hx hb zd_M_winner_27 (by decide) ?_
        exact z_iret hx hb hr hlocks hP hK hD hS zd_M_winner_28 (by decide) (by decide) (Or.inr ⟨rfl, rfl, hw9⟩)
      · have hk2 : k < n := Nat.lt_of_not_le (fun h => c1_ (nI_le h (by omega)))
        refine lv_aload_n hx hb zd_M_winner_10 rfl (lv_at hl 1 rfl) ?_
        refine va_get (D := (dC, dI)) (ci := 3) (v := .ref bz) (C := zR_M) (T := zF_M) (N := 16) hx hb htz zi_M hown hK hP 0 rfl rfl 5 (by decide) (htz _ zq_464) (fun _ h9 => h9) rfl zd_M_winner_11 ?_
        refine lv_iload_n hx hb zd_M_winner_14 rfl (lv_at hl 0 rfl) ?_
        refine z_zald hx hb hK hP 1 2 rfl rfl (j := k) (by omega) (by decide) zd_M_winner_15 ?_
        refine lv_if_eq (tgt := 21) hx hb zd_M_winner_16 (by decide) (fun c2_ => ?_) (fun c2_ => ?_)
        · have hz2 : ∀ q, q < k + 1 → se q = 0 := fun q hq => (Nat.lt_or_eq_of_le (Nat.le_of_lt_succ hq)).elim (hz q) (fun e => e ▸ c2_)
          refine lv_iinc (v := (nI (k + 1))) (lv' := [(1, .int (nI (k + 1))), (0, .ref md)]) hx hb zd_M_winner_21 hl (k := 0) rfl (nI_1 k) (by decide) rfl (fun ls hl => ?_)
          refine lv_goto (tgt := 2) hx hb zd_M_winner_24 (by decide) ?_
          exact ih (k + 1) _ _ _ (by omega) hz2 (by omega) hP hD hS hl
        · have hw9 := zwin_at hk2 hz c2_
          refine lv_iload_n hx hb zd_M_winner_19 rfl (lv_at hl 0 rfl) ?_
          exact z_iret hx hb hr hlocks hP hK hD hS zd_M_winner_20 (by decide) (by decide) (Or.inl ⟨by rw [hw9], rfl, by rw [hw9]; exact hk2⟩)
  exact lp2 _ 0 _ _ _ (Nat.zero_le _) (fun q hq => absurd hq (Nat.not_lt_zero _)) (Nat.lt_succ_self _) hP hD hS hl
set_option maxHeartbeats 4000000 in
set_option maxRecDepth 100000 in
/--  -/
theorem k_Model_counts_k (l : Launch) (dC : Nat → ClassId) (dI : Nat → Nat → Nat) (cI cJ cZ : ClassId) (md : Nat) (th : Int32) (n : Nat) (bw : Nat) (bf : Nat) (bv : Nat) (bz : Nat) (kn : Nat) (bsp : Nat) (bdt : Nat) (bdr : Nat) (bhd : Nat) (bmv : Nat) (bod : Nat) (pl : Nat) (cr : Nat) (tk : Nat) (se : Nat → Int32) (j : Nat) (hn : n ≤ 16) (hj : j < n) (sz : Nat) : zMi l zy_M_counts zw_M_counts ({ frames := 1, cells := 0, slots := 0, locals := 21 }) [.ref md, .int (nI j)] (dC, dI) zcl [(cI, .int), (cJ, .long), (cZ, .boolean)] [(md, .inr (3, [.int th, .int (nI n), .ref bw, .ref bf, .ref bv, .ref bz, .int (nI kn), .ref bsp, .ref bdt, .ref bdr, .ref bhd, .ref bmv, .ref bod, .int (nI pl), .int (nI cr), .int (nI tk)])), (bz, .inl (cZ, 16, .inl se))] sz (fun (r : Int32) (u : va_W) => (r = nI 1 ∧ u = [(md, .inr (3, [.int th, .int (nI n), .ref bw, .ref bf, .ref bv, .ref bz, .int (nI kn), .ref bsp, .ref bdt, .ref bdr, .ref bhd, .ref bmv, .ref bod, .int (nI pl), .int (nI cr), .int (nI tk)])), (bz, .inl (cZ, 16, .inl se))] ∧ j ≤ zwin se n) ∨ (r = nI 0 ∧ u = [(md, .inr (3, [.int th, .int (nI n), .ref bw, .ref bf, .ref bv, .ref bz, .int (nI kn), .ref bsp, .ref bdt, .ref bdr, .ref bhd, .ref bmv, .ref bod, .int (nI pl), .int (nI cr), .int (nI tk)])), (bz, .inl (cZ, 16, .inl se))] ∧ zwin se n < j)) := by
  refine z_ofi (cc := zc_M_counts) (maxL := 3) (ret := (some .boolean)) (by decide) rfl (Nat.le_of_ble_eq_true rfl) ?_
  intro p e s m below meth c A ls hx hb hr hml hown htz hlocks hin hA hP hK hD hS hl
  have hown : s.vm.findClass zR_M = some m.cls := hown
  have hl : lv_has ls 3 [(0, .ref md), (1, .int (nI j))] := hl
  refine lv_aload_n hx hb zd_M_counts_0 rfl (lv_at hl 0 rfl) ?_
  refine z_Vi (As := []) (rest := []) (wc := [(md, .inr (3, [.int th, .int (nI n), .ref bw, .ref bf, .ref bv, .ref bz, .int (nI kn), .ref bsp, .ref bdt, .ref bdr, .ref bhd, .ref bmv, .ref bod, .int (nI pl), .int (nI cr), .int (nI tk)])), (bz, .inl (cZ, 16, .inl se))]) (wr := []) ⟨hx, hb, hml, hown, htz⟩ hK hP hD hS hA (k_Model_winner l dC dI cI cJ cZ md th n bw bf bv bz kn bsp bdt bdr bhd bmv bod pl cr tk se (by first | assumption | omega) s.heap.size) (zcwV 0 htz zq_561 zq_558 zq_560 zp_22 zq_6 (by decide +kernel) ⟨Nat.le_of_ble_eq_true rfl, Nat.le_of_ble_eq_true rfl⟩) 0 3 rfl rfl [0, 1] [] rfl rfl rfl (by decide) rfl hl.1 rfl (Nat.le_of_ble_eq_true rfl) zd_M_counts_1 ⟨Nat.le_of_ble_eq_true rfl, Nat.le_of_ble_eq_true rfl⟩ (fun r u H locs hw hP hD hS => ?_)
  rcases hw with ⟨rfl, rfl, hw1_⟩ | ⟨rfl, rfl, hw2_⟩
  · have hP : va_P (dC, dI) zcl [(md, .inr (3, [.int th, .int (nI n), .ref bw, .ref bf, .ref bv, .ref bz, .int (nI kn), .ref bsp, .ref bdt, .ref bdr, .ref bhd, .ref bmv, .ref bod, .int (nI pl), .int (nI cr), .int (nI tk)])), (bz, .inl (cZ, 16, .inl se))] H := hP
    have hD : va_D A [(md, .inr (3, [.int th, .int (nI n), .ref bw, .ref bf, .ref bv, .ref bz, .int (nI kn), .ref bsp, .ref bdt, .ref bdr, .ref bhd, .ref bmv, .ref bod, .int (nI pl), .int (nI cr), .int (nI tk)])), (bz, .inl (cZ, 16, .inl se))] := hD
    have hw9 := hw1_
    refine lv_istore_n (lv' := [(2, .int (nI (zwin se n))), (0, .ref md), (1, .int (nI j))]) hx hb zd_M_counts_4 rfl hl (by decide) rfl (fun ls hl => ?_)
    refine lv_iload_n hx hb zd_M_counts_5 rfl (lv_at hl 0 rfl) ?_
    refine lv_iconst (v := (-1)) hx hb zd_M_counts_6 (by decide) ?_
    refine lv_icmp_eq (tgt := 15) hx hb zd_M_counts_7 (by decide) (fun c3_ => absurd c3_ (nI_nm1 (by omega))) (fun c3_ => ?_)
    refine lv_iload_n hx hb zd_M_counts_10 rfl (lv_at hl 2 rfl) ?_
    refine lv_iload_n hx hb zd_M_counts_11 rfl (lv_at hl 0 rfl) ?_
    refine lv_icmp_gt (tgt := 19) hx hb zd_M_counts_12 (by decide) (fun c4_ => ?_) (fun c4_ => ?_)
    · have hb9 : zwin se n < j := Nat.lt_of_not_le (fun h => nI_nlt h (by omega) c4_)
      refine lv_iconst (v := (nI 0)) hx hb zd_M_counts_19 (by decide) ?_
      exact z_zret hx hb hr hlocks hP hK hD hS zd_M_counts_20 (by decide) (by decide) rfl (Or.inr ⟨rfl, rfl, hb9⟩)
    · have hb9 : j ≤ zwin se n := Nat.le_of_not_lt (fun h => c4_ (nI_lt h (by omega)))
      refine lv_iconst (v := (nI 1)) hx hb zd_M_counts_15 (by decide) ?_
      refine lv_goto (tgt := 20) hx hb zd_M_counts_16 (by decide) ?_
      exact z_zret hx hb hr hlocks hP hK hD hS zd_M_counts_20 (by decide) (by decide) rfl (Or.inl ⟨rfl, rfl, by first | exact hb9 | omega⟩)
  · have hP : va_P (dC, dI) zcl [(md, .inr (3, [.int th, .int (nI n), .ref bw, .ref bf, .ref bv, .ref bz, .int (nI kn), .ref bsp, .ref bdt, .ref bdr, .ref bhd, .ref bmv, .ref bod, .int (nI pl), .int (nI cr), .int (nI tk)])), (bz, .inl (cZ, 16, .inl se))] H := hP
    have hD : va_D A [(md, .inr (3, [.int th, .int (nI n), .ref bw, .ref bf, .ref bv, .ref bz, .int (nI kn), .ref bsp, .ref bdt, .ref bdr, .ref bhd, .ref bmv, .ref bod, .int (nI pl), .int (nI cr), .int (nI tk)])), (bz, .inl (cZ, 16, .inl se))] := hD
    have hw9 := hw2_
    refine lv_istore_n (lv' := [(2, .int (-1)), (0, .ref md), (1, .int (nI j))]) hx hb zd_M_counts_4 rfl hl (by decide) rfl (fun ls hl => ?_)
    refine lv_iload_n hx hb zd_M_counts_5 rfl (lv_at hl 0 rfl) ?_
    refine lv_iconst (v := (-1)) hx hb zd_M_counts_6 (by decide) ?_
    refine lv_icmp_eq (tgt := 15) hx hb zd_M_counts_7 (by decide) (fun c5_ => ?_) (fun c5_ => absurd rfl c5_)
    refine lv_iconst (v := (nI 1)) hx hb zd_M_counts_15 (by decide) ?_
    refine lv_goto (tgt := 20) hx hb zd_M_counts_16 (by decide) ?_
    exact z_zret hx hb hr hlocks hP hK hD hS zd_M_counts_20 (by decide) (by decide) rfl (Or.inl ⟨rfl, rfl, by first | exact hb9 | omega⟩)
end
section
/-- what the plan's numbers are -/
def zcfg (n : Nat) (wk fl : ZA) : Prop := ∀ j, j < n → ∃ a b : Nat, 1 ≤ a ∧ a ≤ 100 ∧ b ≤ 3 ∧ wk j = nI a ∧ fl j = nI b
/-- a share's ticks, tries and end -/
def zshr (wk fl fa tt sp dt : ZA) (j : Nat) : Prop := ∃ a b f t : Nat, 1 ≤ a ∧ a ≤ 100 ∧ b ≤ 3 ∧ wk j = nI a ∧ fl j = nI b ∧ fa j = nI f ∧ tt j = nI t ∧ t < a ∧ f ≤ b ∧ ((dt j = 0 ∧ sp j = nI (f * a + t)) ∨ (0 < dt j ∧ f = b ∧ t = 0 ∧ sp j = nI (a * (b + 1))))
/-- all that holds of a run at each tick -/
def zfull (n cr : Nat) (wk se fl : ZA) (x : ZS) : Prop := match x with
  | (hd, mv, tt, sp, fa, dr, dt, od, nx, ba, pl, tk, r) => zinv n cr (hd, mv, tt, sp, fa, dr, dt, od, nx, ba, pl, tk, r) ∧
    (∀ v w, v < cr → w < cr → hd v = hd w → hd v ≠ -1 → v = w) ∧
    (∀ w j, w < cr → j < n → hd w = nI j → dt j = 0 ∧ j ≤ ba) ∧
    (∀ j, nx ≤ j → j < n → dt j = 0) ∧
    (∀ j, j < nx → 0 < dt j ∨ (∃ w, w < cr ∧ hd w = nI j) ∨ ba < j) ∧
    (ba < n → ba < nx ∧ zsd se dt ba) ∧
    (∀ q, q < ba → ¬ zsd se dt q) ∧
    (∀ j, j < n → zshr wk fl fa tt sp dt j)
section ZFull
variable {cr n w j nx ba pl tk : Nat} {wk se fl hd mv tt sp fa dr dt od : ZA} {r r0 : Int64}
theorem zfull_beg (hn : n ≤ 16) (hc : zcfg n wk fl) : zfull n cr wk se fl (zbeg n od r) := by
  refine ⟨⟨Nat.zero_le _, Nat.le_refl _, fun w _ => Or.inl rfl, ?_⟩, ?_, ?_, fun _ _ _ => rfl, fun j hj => absurd hj (Nat.not_lt_zero _), fun h => absurd h (Nat.lt_irrefl _), ?_, ?_⟩
  · have : ∀ k, zcnt (fun _ => (-1 : Int32)) k = 0 := by
      intro k
      induction k with
      | zero => rfl
      | succ k ih => simp only [zcnt]; rw [ih]; rfl
    rw [this]; exact Nat.le_refl _
  · intro v w _ _ _ h; exact absurd rfl h
  · intro w j _ hj h; exact absurd h.symm (nI_nm1 (by omega))
  · intro q _ h; exact absurd (show (0 : Int32) < 0 from h.2) (by decide)
  · intro j hj
    obtain ⟨a, b, h1, h2, h3, h4, h5⟩ := hc j hj
    exact ⟨a, b, 0, 0, h1, h2, h3, h4, h5, rfl, rfl, by omega, Nat.zero_le _, Or.inl ⟨rfl, by rw [Nat.zero_mul]; rfl⟩⟩
theorem zfull_take (hn : n ≤ 16) (hw : w < cr) (hwt : hd w = -1 → nx < ba) (h : zfull n cr wk se fl (hd, mv, tt, sp, fa, dr, dt, od, nx, ba, pl, tk, r)) : zfull n cr wk se fl (ztake w (hd, mv, tt, sp, fa, dr, dt, od, nx, ba, pl, tk, r)) := by
  obtain ⟨h0, d1, d2, d4, d5, d6, d7, d8⟩ := h
  by_cases c : hd w = -1
  · have hb := hwt c
    have hz := zinv_take hn hw hwt h0
    rw [ztake_1 c] at hz ⊢
    obtain ⟨i1, i2, i3, i4⟩ := h0
    have hf : ∀ v, v < cr → hd v ≠ nI nx := fun v hv e => by
      rcases i3 v hv with q | ⟨i, hi, q⟩
      · rw [e] at q; exact nI_nm1 (by omega) q
      · rw [e] at q; have := (nI_eq (by omega) (by omega)).mp q; omega
    refine ⟨hz, fun u v hu hv e hne => ?_, fun v i hv hi e => ?_, fun i h1 h2 => d4 i (by omega) h2, fun i hi => ?_, fun q => ?_, d7, d8⟩
    · by_cases eu : u = w
      · by_cases ev : v = w
        · rw [eu, ev]
        · rw [eu, pk_us, pk_un ev] at e; exact absurd e.symm (hf v hv)
      · by_cases ev : v = w
        · rw [ev, pk_us, pk_un eu] at e; exact absurd e (hf u hu)
        · rw [pk_un eu, pk_un ev] at e; rw [pk_un eu] at hne; exact d1 u v hu hv e hne
    · by_cases ev : v = w
      · rw [ev, pk_us] at e
        have := (nI_eq (by omega) (by omega)).mp e
        subst this; exact ⟨d4 nx (Nat.le_refl _) (by omega), by omega⟩
      · rw [pk_un ev] at e; exact d2 v i hv hi e
    · rcases Nat.lt_or_eq_of_le (Nat.le_of_lt_succ hi) with h1 | h1
      · rcases d5 i h1 with q | ⟨v, hv, q⟩ | q
        · exact Or.inl q
        · refine Or.inr (Or.inl ⟨v, hv, ?_⟩)
          have : v ≠ w := fun z => by rw [z, c] at q; exact nI_nm1 (by omega) q.symm
          rw [pk_un this]; exact q
        · exact Or.inr (Or.inr q)
      · exact Or.inr (Or.inl ⟨w, hw, by rw [pk_us, h1]⟩)
    · have := (d6 q).1; omega
  · rw [ztake_0 c]; exact ⟨h0, d1, d2, d4, d5, d6, d7, d8⟩
theorem zshr_off {fa' tt' sp' dt' : ZA} {i : Nat} (h : zshr wk fl fa tt sp dt i) (h1 : fa' i = fa i) (h2 : tt' i = tt i) (h3 : sp' i = sp i) (h4 : dt' i = dt i) : zshr wk fl fa' tt' sp' dt' i := by
  obtain ⟨a, b, f, t, q1, q2, q3, q4, q5, q6, q7, q8, q9, q0⟩ := h
  exact ⟨a, b, f, t, q1, q2, q3, q4, q5, by rw [h1]; exact q6, by rw [h2]; exact q7, q8, q9, by rw [h3, h4]; exact q0⟩
theorem zsp_lt {a b f t : Nat} (h1 : 1 ≤ a) (hf : f ≤ b) (ht : t < a) : f * a + t + 1 < a * (b + 1) ↔ ¬ (f = b ∧ t + 1 = a) := by
  rw [Nat.mul_add, Nat.mul_one, Nat.mul_comm a b]
  rcases Nat.lt_or_eq_of_le hf with h | h
  · have h2 : (f + 1) * a ≤ b * a := Nat.mul_le_mul_right a h
    rw [Nat.add_mul, Nat.one_mul] at h2
    constructor
    · intro _ q; omega
    · intro _; omega
  · subst h
    constructor
    · intro h3 q; omega
    · intro q; have : t + 1 ≠ a := fun e => q ⟨rfl, e⟩; omega
theorem zsp_sm {a b f t : Nat} (h2 : a ≤ 100) (h3 : b ≤ 3) (hf : f ≤ b) (ht : t < a) : f * a + t + 1 < 2 ^ 31 ∧ a * (b + 1) < 2 ^ 31 := by
  have h4 : f * a ≤ 3 * 100 := Nat.mul_le_mul (by omega) h2
  have h5 : a * (b + 1) ≤ 100 * 4 := Nat.mul_le_mul h2 (by omega)
  omega
theorem zi_add1 (x : Nat) : nI x + 1 = nI (x + 1) := nI_1 x
theorem zfull_work (hn : n ≤ 16) (htk : tk < 10000) (hw : w < cr) (hcr : cr ≤ 16) (hc : hd w ≠ -1) (h : zfull n cr wk se fl (hd, mv, tt, sp, fa, dr, dt, od, nx, ba, pl, tk, r0)) : zfull n cr wk se fl (zwork cr wk se fl w r (hd, mv, tt, sp, fa, dr, dt, od, nx, ba, pl, tk, r0)) := by
  obtain ⟨h0, d1, d2, d4, d5, d6, d7, d8⟩ := h
  have hz := zinv_work (wk := wk) (se := se) (fl := fl) (r := r) hn hw hc h0
  obtain ⟨i1, i2, i3, i4⟩ := h0
  rcases i3 w hw with q | ⟨j, hj, q⟩
  · exact absurd q hc
  have hjn : j < n := by omega
  obtain ⟨e0, ejb⟩ := d2 w j hw hjn q
  obtain ⟨a, b, f, t, q1, q2, q3, q4, q5, q6, q7, q8, q9, qd⟩ := d8 j hjn
  have qsp : sp j = nI (f * a + t) := by
    rcases qd with qd | qd
    · exact qd.2
    · rw [e0] at qd; exact absurd qd.1 (by decide)
  have hsm := zsp_sm q2 q3 q9 q8
  by_cases c1 : tt j + 1 < wk j
  · rw [zwork_1 (by omega) q c1] at hz ⊢
    refine ⟨hz, d1, d2, d4, d5, d6, d7, fun i hi => ?_⟩
    by_cases e : i = j
    · subst e
      rw [q7, q4, zi_add1, nI_ltI (by omega) (by omega)] at c1
      exact ⟨a, b, f, t + 1, q1, q2, q3, q4, q5, q6, by rw [pk_us, q7, zi_add1], c1, q9, Or.inl ⟨e0, by rw [pk_us, qsp, zi_add1, Nat.add_assoc]⟩⟩
    · exact zshr_off (d8 i hi) rfl (pk_un e) (pk_un e) rfl
  have ht1 : t + 1 = a := by
    rw [q7, q4, zi_add1, nI_ltI (by omega) (by omega)] at c1; omega
  by_cases c2 : fa j < fl j
  · rw [zwork_2 (by omega) q c1 c2] at hz ⊢
    refine ⟨hz, d1, d2, d4, d5, d6, d7, fun i hi => ?_⟩
    by_cases e : i = j
    · subst e
      rw [q6, q5, nI_ltI (by omega) (by omega)] at c2
      refine ⟨a, b, f + 1, 0, q1, q2, q3, q4, q5, by rw [pk_us, q6, zi_add1], by rw [pk_us]; rfl, by omega, by omega, Or.inl ⟨e0, ?_⟩⟩
      rw [pk_us, qsp, zi_add1, Nat.add_mul, Nat.one_mul]
      congr 1; omega
    · exact zshr_off (d8 i hi) (pk_un e) (by rw [pk_un e, pk_un e]) (pk_un e) rfl
  have hfb : f = b := by
    rw [q6, q5, nI_ltI (by omega) (by omega)] at c2; omega
  have hpos : (0 : Int32) < nI (tk + 1) := by rw [← nI_0]; exact nI_lt (by omega) (by omega)
  have hsh : ∀ i, i < n → zshr wk fl fa (upd (upd tt j (tt j + 1)) j 0) (upd sp j (sp j + 1)) (upd dt j (nI (tk + 1))) i := fun i hi => by
    by_cases e : i = j
    · subst e
      refine ⟨a, b, f, 0, q1, q2, q3, q4, q5, q6, by rw [pk_us]; rfl, by omega, q9, Or.inr ⟨by rw [pk_us]; exact hpos, hfb, rfl, ?_⟩⟩
      rw [pk_us, qsp, zi_add1, hfb, Nat.mul_add, Nat.mul_one, Nat.mul_comm a b]
      congr 1; omega
    · exact zshr_off (d8 i hi) rfl (by rw [pk_un e, pk_un e]) (pk_un e) (pk_un e)
  have hoth : ∀ v i, v < cr → v ≠ w → i < n → hd v = nI i → i ≠ j := fun v i hv hne hi e z => by
    subst z
    exact hne (d1 v w hv hw (by rw [e, q]) (by rw [e]; exact nI_nm1 (by omega)))
  have g1 : ∀ u v, u < cr → v < cr → upd hd w (-1) u = upd hd w (-1) v → upd hd w (-1) u ≠ -1 → u = v := fun u v hu hv e hne => by
    have eu : u ≠ w := fun z => hne (by rw [z, pk_us])
    rw [pk_un eu] at hne e
    have ev : v ≠ w := fun z => by rw [z, pk_us] at e; exact hne e
    rw [pk_un ev] at e
    exact d1 u v hu hv e hne
  have g2 : ∀ v i, v < cr → i < n → upd hd w (-1) v = nI i → v ≠ w ∧ i ≠ j ∧ hd v = nI i := fun v i hv hi e => by
    have ev : v ≠ w := fun z => by rw [z, pk_us] at e; exact nI_nm1 (by omega) e.symm
    rw [pk_un ev] at e
    exact ⟨ev, hoth v i hv ev hi e, e⟩
  have g4 : ∀ i, nx ≤ i → i < n → upd dt j (nI (tk + 1)) i = 0 := fun i h1 h2 => by rw [pk_un (by omega)]; exact d4 i h1 h2
  have g5 : ∀ i, i < nx → 0 < upd dt j (nI (tk + 1)) i ∨ (∃ v, v < cr ∧ upd hd w (-1) v = nI i) ∨ ba < i := fun i hi => by
    by_cases e : i = j
    · subst e; exact Or.inl (by rw [pk_us]; exact hpos)
    · rw [pk_un e]
      rcases d5 i hi with z | ⟨v, hv, z⟩ | z
      · exact Or.inl z
      · refine Or.inr (Or.inl ⟨v, hv, ?_⟩)
        have ev : v ≠ w := fun y => by
          rw [y, q] at z
          exact e ((nI_eq (by omega) (by omega)).mp z).symm
        rw [pk_un ev]; exact z
      · exact Or.inr (Or.inr z)
  by_cases c3 : se j = 0
  · rw [zwork_3 (by omega) q c1 c2 c3] at hz ⊢
    refine ⟨hz, g1, fun v i hv hi e => ?_, g4, g5, fun z => ?_, fun i hi z => ?_, hsh⟩
    · obtain ⟨_, e2, e3⟩ := g2 v i hv hi e
      rw [pk_un e2]; exact d2 v i hv hi e3
    · obtain ⟨z1, z2⟩ := d6 z
      refine ⟨z1, z2.1, ?_⟩
      by_cases e : ba = j
      · rw [e, pk_us]; exact hpos
      · rw [pk_un e]; exact z2.2
    · by_cases e : i = j
      · subst e; exact z.1 c3
      · refine d7 i hi ⟨z.1, ?_⟩
        have := z.2; rw [pk_un e] at this; exact this
  · rw [zwork_4 (by omega) q c1 c2 c3] at hz ⊢
    have hdz : ∀ v, v < cr → zdrop (upd hd w (-1)) cr j v ≠ -1 → zdrop (upd hd w (-1)) cr j v = upd hd w (-1) v ∧ ¬ nI j < upd hd w (-1) v := fun v hv hne => by
      by_cases e : nI j < upd hd w (-1) v
      · exact absurd (by simp only [zdrop]; rw [if_pos ⟨hv, e⟩]) hne
      · exact ⟨by simp only [zdrop]; rw [if_neg (fun z => e z.2)], e⟩
    refine ⟨hz, fun u v hu hv e hne => ?_, fun v i hv hi e => ?_, g4, fun i hi => ?_, fun _ => ⟨hj, c3, by rw [pk_us]; exact hpos⟩, fun i hi z => ?_, hsh⟩
    · have k1 := hdz u hu hne
      have k2 := hdz v hv (by rw [← e]; exact hne)
      rw [k1.1, k2.1] at e; rw [k1.1] at hne
      exact g1 u v hu hv e hne
    · have k1 := hdz v hv (by rw [e]; exact nI_nm1 (by omega))
      rw [k1.1] at e
      obtain ⟨_, e2, e3⟩ := g2 v i hv hi e
      rw [pk_un e2]
      refine ⟨(d2 v i hv hi e3).1, ?_⟩
      have := k1.2; rw [e, nI_ltI (by omega) (by omega)] at this; omega
    · rcases g5 i hi with z | ⟨v, hv, z⟩ | z
      · exact Or.inl z
      · by_cases e : nI j < upd hd w (-1) v
        · rw [z, nI_ltI (by omega) (by omega)] at e; exact Or.inr (Or.inr e)
        · exact Or.inr (Or.inl ⟨v, hv, by simp only [zdrop]; rw [if_neg (fun y => e y.2)]; exact z⟩)
      · exact Or.inr (Or.inr (by omega))
    · have e : i ≠ j := by omega
      refine d7 i (by omega) ⟨z.1, ?_⟩
      have := z.2; rw [pk_un e] at this; exact this
theorem zfull_step (hn : n ≤ 16) (hcr : cr ≤ 16) (htk : tk < 10000) (h : zfull n cr wk se fl (hd, mv, tt, sp, fa, dr, dt, od, nx, ba, pl, tk, r)) (hm : 0 < zmv cr (hd, mv, tt, sp, fa, dr, dt, od, nx, ba, pl, tk, r)) : zfull n cr wk se fl (zstep cr wk se fl (hd, mv, tt, sp, fa, dr, dt, od, nx, ba, pl, tk, r)) := by
  rw [zstep_of rfl]
  obtain ⟨h1, h2⟩ := zwho_ok (r0 := znext r) hm
  generalize zwho cr hd nx ba (znext r) = w at h1 h2 ⊢
  have hz := zfull_take hn h1 h2 h
  obtain ⟨⟨a, b, -, -⟩, -⟩ := h
  by_cases c : hd w = -1
  · have hb := h2 c
    rw [ztake_1 c] at hz ⊢
    exact zfull_work hn htk h1 hcr (by rw [pk_us]; exact nI_nm1 (by omega)) hz
  · rw [ztake_0 c] at hz ⊢
    exact zfull_work hn htk h1 hcr c hz
/-- which share waits -/
theorem zfull_waits (h : zfull n cr wk se fl (hd, mv, tt, sp, fa, dr, dt, od, nx, ba, pl, tk, r)) (hn : n ≤ 16) : (∀ q, q < nx → ¬ zwt se dt hd cr q) ∧ (nx < ba → nx < n ∧ zwt se dt hd cr nx) ∧ (ba ≤ nx → ∀ q, q < n → ¬ zwt se dt hd cr q) := by
  obtain ⟨⟨i1, i2, i3, i4⟩, d1, d2, d4, d5, d6, d7, d8⟩ := h
  have k1 : ∀ q, q < nx → ¬ zwt se dt hd cr q := fun q hq z => by
    rcases d5 q hq with y | ⟨v, hv, y⟩ | y
    · rw [z.1] at y; exact absurd y (by decide)
    · exact z.2.1 v hv y
    · exact z.2.2 ba y (d6 (by omega)).2
  refine ⟨k1, fun hb => ⟨by omega, d4 nx (Nat.le_refl _) (by omega), fun v hv e => ?_, fun q hq => d7 q (by omega)⟩, fun hb q hq => ?_⟩
  · rcases i3 v hv with y | ⟨i, hi, y⟩
    · rw [e] at y; exact nI_nm1 (by omega) y
    · rw [e] at y; have := (nI_eq (by omega) (by omega)).mp y; omega
  · rcases Nat.lt_or_ge q nx with h1 | h1
    · exact k1 q h1
    · intro z
      have hbn : ba < n := by omega
      have := (d6 hbn).1
      exact z.2.2 ba (by omega) (d6 hbn).2
end ZFull
/-- what the reference does with those behind a share -/
def zdrs (se hd : ZA) (k j : Nat) : ZA := if se j = 0 then hd else zdrop hd k j
theorem zdrs_0 {se hd : ZA} {j : Nat} : zdrs se hd 0 j = hd := by simp only [zdrs]; split; rfl; exact zdrop_0
theorem zdrs_a {se hd : ZA} {k j : Nat} (h : se j = 0) : zdrs se hd (k + 1) j = zdrs se hd k j := by simp only [zdrs]; rw [if_pos h, if_pos h]
theorem zdrs_b {se hd : ZA} {k j : Nat} (h : ¬ se j = 0) (h2 : ¬ nI j < zdrs se hd k j k) : zdrs se hd (k + 1) j = zdrs se hd k j := by
  simp only [zdrs] at h2 ⊢; rw [if_neg h] at h2; rw [if_neg h, if_neg h]; exact zdrop_stay h2
theorem zdrs_c {se hd : ZA} {k j : Nat} (h : ¬ se j = 0) (h2 : nI j < zdrs se hd k j k) : zdrs se hd (k + 1) j = upd (zdrs se hd k j) k (-1) := by
  simp only [zdrs] at h2 ⊢; rw [if_neg h] at h2; rw [if_neg h, if_neg h]; exact zdrop_step h2
section ZModel
variable {cr n w j nx ba pl tk n1 : Nat} {wk se fl hd mv tt sp fa dr dt od h1 : ZA} {r r0 : Int64}
/-- a tick, as the reference does it -/
theorem zstep_model (hn : n ≤ 16) (h : zfull n cr wk se fl (hd, mv, tt, sp, fa, dr, dt, od, nx, ba, pl, tk, r)) (hwho : zwho cr hd nx ba (znext r) = w) (hw : w < cr) (hwt : hd w = -1 → nx < ba)
    (hh1 : h1 = if hd w = -1 then upd hd w (nI nx) else hd) : ∃ j, h1 w = nI j ∧ j < n ∧ pl < 16 ∧
      (sp j + 1 < wk j * (fl j + 1) → ∃ tt2 fa2 n2, zstep cr wk se fl (hd, mv, tt, sp, fa, dr, dt, od, nx, ba, pl, tk, r) = (h1, upd mv w (mv w + 1), tt2, upd sp j (sp j + 1), fa2, dr, dt, od, n2, ba, pl, tk + 1, znext r)) ∧
      (¬ sp j + 1 < wk j * (fl j + 1) → ∃ tt2 n2 b2, zstep cr wk se fl (hd, mv, tt, sp, fa, dr, dt, od, nx, ba, pl, tk, r) = (zdrs se (upd h1 w (-1)) cr j, upd mv w (mv w + 1), tt2, upd sp j (sp j + 1), fa, upd dr j (nI w), upd dt j (nI (tk + 1)), upd od pl (nI j), n2, b2, pl + 1, tk + 1, znext r)) := by
  have hz := zfull_take hn hw hwt h
  have ht : ∃ n2, ztake w (hd, mv, tt, sp, fa, dr, dt, od, nx, ba, pl, tk, r) = (h1, mv, tt, sp, fa, dr, dt, od, n2, ba, pl, tk, r) ∧ h1 w ≠ -1 := by
    by_cases c : hd w = -1
    · rw [if_pos c] at hh1
      obtain ⟨⟨i1, i2, -, -⟩, -⟩ := h
      have := hwt c
      exact ⟨nx + 1, by rw [ztake_1 c, hh1], by rw [hh1, pk_us]; exact nI_nm1 (by omega)⟩
    · rw [if_neg c] at hh1
      exact ⟨nx, by rw [ztake_0 c, hh1], by rw [hh1]; exact c⟩
  obtain ⟨n2, ht, hne⟩ := ht
  rw [ht] at hz
  obtain ⟨⟨i1, i2, i3, i4⟩, d1, d2, d4, d5, d6, d7, d8⟩ := hz
  rcases i3 w hw with q | ⟨j, hj, q⟩
  · exact absurd q hne
  have hjn : j < n := by omega
  have e0 := (d2 w j hw hjn q).1
  obtain ⟨a, b, f, t, q1, q2, q3, q4, q5, q6, q7, q8, q9, qd⟩ := d8 j hjn
  have qsp : sp j = nI (f * a + t) := by
    rcases qd with qd | qd
    · exact qd.2
    · rw [e0] at qd; exact absurd qd.1 (by decide)
  have hsm := zsp_sm q2 q3 q9 q8
  have hiff : sp j + 1 < wk j * (fl j + 1) ↔ ¬ (f = b ∧ t + 1 = a) := by
    rw [qsp, q4, q5, nI_1, nI_1, pk_mul, nI_ltI hsm.1 hsm.2]
    exact zsp_lt q1 q9 q8
  have hc1 : tt j + 1 < wk j ↔ t + 1 < a := by rw [q7, q4, nI_1, nI_ltI (by omega) (by omega)]
  have hc2 : fa j < fl j ↔ f < b := by rw [q6, q5, nI_ltI (by omega) (by omega)]
  have hpl := zcnt_pos (f := h1) cr hw hne
  refine ⟨j, q, hjn, by omega, fun c => ?_, fun c => ?_⟩
  · rw [hiff] at c
    rw [zstep_of hwho, ht]
    by_cases c1 : tt j + 1 < wk j
    · exact ⟨_, _, _, zwork_1 (by omega) q c1⟩
    · have c2 : fa j < fl j := hc2.mpr (by rw [hc1] at c1; omega)
      exact ⟨_, _, _, zwork_2 (by omega) q c1 c2⟩
  · rw [hiff] at c
    have c' : f = b ∧ t + 1 = a := Decidable.not_not.mp c
    rw [zstep_of hwho, ht]
    have c1 : ¬ tt j + 1 < wk j := by rw [hc1]; omega
    have c2 : ¬ fa j < fl j := by rw [hc2]; omega
    by_cases c3 : se j = 0
    · exact ⟨_, _, _, by rw [zwork_3 (by omega) q c1 c2 c3]; simp only [zdrs]; rw [if_pos c3]⟩
    · exact ⟨_, _, _, by rw [zwork_4 (by omega) q c1 c2 c3]; simp only [zdrs]; rw [if_neg c3]⟩
end ZModel
theorem z_rng {x : Int32} {a b : Nat} (ha : a < 2 ^ 31) (hb : b < 2 ^ 31) (h1 : ¬ x < nI a) (h2 : ¬ nI b < x) : ∃ k, a ≤ k ∧ k ≤ b ∧ x = nI k := by
  obtain ⟨j, hj, rfl⟩ := nI_of (x := x) (fun h => h1 (Int32.lt_of_lt_of_le h (nI_pos' ha)))
  refine ⟨j, ?_, ?_, rfl⟩
  · exact Nat.le_of_not_lt (fun h => h1 (nI_lt h ha))
  · exact Nat.le_of_not_lt (fun h => h2 (nI_lt h hj))
theorem z_swapP {D : va_G} {cl : List vw_C} {ws : va_W} {aa i : Nat} {cA : ClassId} {n : Nat} {f : Nat → Int32} (g : Nat → Int32) {H : Heap} (he : ws[i]? = some (aa, .inl (cA, n, .inl f))) (h : ∀ j, j < n → f j = g j) (hP : va_P D cl ws H) : va_P D cl (ws.set i (aa, .inl (cA, n, .inl g))) H := by
  intro k q hq
  by_cases e : i = k
  · subst e
    have hi : i < ws.length := (List.getElem?_eq_some_iff.mp he).1
    rw [List.getElem?_set_self hi] at hq
    cases hq
    show H[aa]? = some (vp_cell cA (n, .inl g))
    rw [← z_cellI h]
    exact hP i _ he
  · rw [List.getElem?_set_ne e] at hq
    exact hP k q hq
theorem z_swapD {A : Nat → Prop} {ws : va_W} {aa i : Nat} {x : va_E} (y : va_E) (he : ws[i]? = some (aa, x)) (hD : va_D A ws) : va_D A (ws.set i (aa, y)) := by
  have key : ∀ (k : Nat) (q : Nat × va_E), (ws.set i (aa, y))[k]? = some q → ∃ z, ws[k]? = some (q.1, z) := fun k q hq => by
    by_cases e : i = k
    · subst e
      have hi : i < ws.length := (List.getElem?_eq_some_iff.mp he).1
      rw [List.getElem?_set_self hi] at hq
      cases hq
      exact ⟨x, he⟩
    · rw [List.getElem?_set_ne e] at hq
      exact ⟨q.2, hq⟩
  refine ⟨fun a b p q ha hb e => ?_, fun k q hk => ?_⟩
  · obtain ⟨z1, h1⟩ := key a p ha
    obtain ⟨z2, h2⟩ := key b q hb
    exact hD.1 a b (p.1, z1) (q.1, z2) h1 h2 e
  · obtain ⟨z, h1⟩ := key k q hk
    exact hD.2 k (q.1, z) h1
end
