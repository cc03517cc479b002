section
/-- a private method of a class that the tables say can be made, by its rows of tables_1 -/
def lw_okq (q : MethodName × Nat) : Prop := (q.1.cls ≠ "java/lang/invoke/MethodHandle" ∧ q.1.cls ≠ "java/lang/invoke/VarHandle") ∧ Cond.instantiable q.1.cls q.2 ∈ tables_1 ∧ Cond.privateMethod q.1 ∈ tables_1 ∧ Cond.instanceMethod q.1 ∈ tables_1
theorem lw_p0 : lw_okq (⟨"SnapshotVault", "isClean", "(LSnapshotVault$Repository;)Z"⟩, 3) := ⟨⟨by decide +kernel, by decide +kernel⟩, List.mem_of_getElem? (i := 10) (by decide +kernel), List.mem_of_getElem? (i := 171) (by decide +kernel), List.mem_of_getElem? (i := 172) (by decide +kernel)⟩
theorem lw_p1 : lw_okq (⟨"SnapshotVault", "moveTo", "(LSnapshotVault$Repository;I)V"⟩, 3) := ⟨⟨by decide +kernel, by decide +kernel⟩, List.mem_of_getElem? (i := 10) (by decide +kernel), List.mem_of_getElem? (i := 175) (by decide +kernel), List.mem_of_getElem? (i := 176) (by decide +kernel)⟩
theorem lw_p2 : lw_okq (⟨"SnapshotVault", "refusalToChangeHead", "(II)I"⟩, 3) := ⟨⟨by decide +kernel, by decide +kernel⟩, List.mem_of_getElem? (i := 10) (by decide +kernel), List.mem_of_getElem? (i := 187) (by decide +kernel), List.mem_of_getElem? (i := 188) (by decide +kernel)⟩
theorem lw_p3 : lw_okq (⟨"SnapshotVault", "joinCommits", "(II)I"⟩, 3) := ⟨⟨by decide +kernel, by decide +kernel⟩, List.mem_of_getElem? (i := 10) (by decide +kernel), List.mem_of_getElem? (i := 198) (by decide +kernel), List.mem_of_getElem? (i := 199) (by decide +kernel)⟩
theorem lw_p4 : lw_okq (⟨"SnapshotVault$History", "isReachedByLater", "(JI)Z"⟩, 5) := ⟨⟨by decide +kernel, by decide +kernel⟩, List.mem_of_getElem? (i := 18) (by decide +kernel), List.mem_of_getElem? (i := 206) (by decide +kernel), List.mem_of_getElem? (i := 207) (by decide +kernel)⟩
theorem lw_p5 : lw_okq (⟨"SnapshotVault$Uniter", "uniteTexts", "(JJJ)J"⟩, 4) := ⟨⟨by decide +kernel, by decide +kernel⟩, List.mem_of_getElem? (i := 72) (by decide +kernel), List.mem_of_getElem? (i := 221) (by decide +kernel), List.mem_of_getElem? (i := 222) (by decide +kernel)⟩
theorem lw_p6 : lw_okq (⟨"SnapshotVault$Uniter", "countCommon", "(JJ)V"⟩, 4) := ⟨⟨by decide +kernel, by decide +kernel⟩, List.mem_of_getElem? (i := 72) (by decide +kernel), List.mem_of_getElem? (i := 225) (by decide +kernel), List.mem_of_getElem? (i := 226) (by decide +kernel)⟩
theorem lw_p7 : lw_okq (⟨"SnapshotVault$Uniter", "matchLines", "(JJ[I)V"⟩, 4) := ⟨⟨by decide +kernel, by decide +kernel⟩, List.mem_of_getElem? (i := 72) (by decide +kernel), List.mem_of_getElem? (i := 239) (by decide +kernel), List.mem_of_getElem? (i := 240) (by decide +kernel)⟩
theorem lw_p8 : lw_okq (⟨"SnapshotVault", "isHeld", "(LSnapshotVault$Repository;I)Z"⟩, 3) := ⟨⟨by decide +kernel, by decide +kernel⟩, List.mem_of_getElem? (i := 10) (by decide +kernel), List.mem_of_getElem? (i := 257) (by decide +kernel), List.mem_of_getElem? (i := 258) (by decide +kernel)⟩
theorem lw_p9 : lw_okq (⟨"SnapshotVault", "doAgain", "(II)I"⟩, 3) := ⟨⟨by decide +kernel, by decide +kernel⟩, List.mem_of_getElem? (i := 10) (by decide +kernel), List.mem_of_getElem? (i := 263) (by decide +kernel), List.mem_of_getElem? (i := 264) (by decide +kernel)⟩
theorem lw_p10 : lw_okq (⟨"SnapshotVault", "doAllAgain", "(JI)I"⟩, 3) := ⟨⟨by decide +kernel, by decide +kernel⟩, List.mem_of_getElem? (i := 10) (by decide +kernel), List.mem_of_getElem? (i := 280) (by decide +kernel), List.mem_of_getElem? (i := 281) (by decide +kernel)⟩
theorem lw_p11 : lw_okq (⟨"SnapshotVaultModel", "sameAsHead", "([JI)Z"⟩, 19) := ⟨⟨by decide +kernel, by decide +kernel⟩, List.mem_of_getElem? (i := 339) (by decide +kernel), List.mem_of_getElem? (i := 424) (by decide +kernel), List.mem_of_getElem? (i := 425) (by decide +kernel)⟩
theorem lw_p12 : lw_okq (⟨"SnapshotVaultModel", "head", "(I)I"⟩, 19) := ⟨⟨by decide +kernel, by decide +kernel⟩, List.mem_of_getElem? (i := 339) (by decide +kernel), List.mem_of_getElem? (i := 428) (by decide +kernel), List.mem_of_getElem? (i := 429) (by decide +kernel)⟩
theorem lw_p13 : lw_okq (⟨"SnapshotVaultModel", "textOf", "(II)J"⟩, 19) := ⟨⟨by decide +kernel, by decide +kernel⟩, List.mem_of_getElem? (i := 339) (by decide +kernel), List.mem_of_getElem? (i := 432) (by decide +kernel), List.mem_of_getElem? (i := 433) (by decide +kernel)⟩
theorem lw_p14 : lw_okq (⟨"SnapshotVaultModel", "make", "(III)I"⟩, 19) := ⟨⟨by decide +kernel, by decide +kernel⟩, List.mem_of_getElem? (i := 339) (by decide +kernel), List.mem_of_getElem? (i := 436) (by decide +kernel), List.mem_of_getElem? (i := 437) (by decide +kernel)⟩
theorem lw_p15 : lw_okq (⟨"SnapshotVaultModel", "there", "(II)Z"⟩, 19) := ⟨⟨by decide +kernel, by decide +kernel⟩, List.mem_of_getElem? (i := 339) (by decide +kernel), List.mem_of_getElem? (i := 444) (by decide +kernel), List.mem_of_getElem? (i := 445) (by decide +kernel)⟩
def lw_privs_1 : List (MethodName × Nat) := [(⟨"SnapshotVault", "isClean", "(LSnapshotVault$Repository;)Z"⟩, 3), (⟨"SnapshotVault", "moveTo", "(LSnapshotVault$Repository;I)V"⟩, 3), (⟨"SnapshotVault", "refusalToChangeHead", "(II)I"⟩, 3), (⟨"SnapshotVault", "joinCommits", "(II)I"⟩, 3), (⟨"SnapshotVault$History", "isReachedByLater", "(JI)Z"⟩, 5), (⟨"SnapshotVault$Uniter", "uniteTexts", "(JJJ)J"⟩, 4), (⟨"SnapshotVault$Uniter", "countCommon", "(JJ)V"⟩, 4), (⟨"SnapshotVault$Uniter", "matchLines", "(JJ[I)V"⟩, 4), (⟨"SnapshotVault", "isHeld", "(LSnapshotVault$Repository;I)Z"⟩, 3), (⟨"SnapshotVault", "doAgain", "(II)I"⟩, 3), (⟨"SnapshotVault", "doAllAgain", "(JI)I"⟩, 3), (⟨"SnapshotVaultModel", "sameAsHead", "([JI)Z"⟩, 19), (⟨"SnapshotVaultModel", "head", "(I)I"⟩, 19), (⟨"SnapshotVaultModel", "textOf", "(II)J"⟩, 19), (⟨"SnapshotVaultModel", "make", "(III)I"⟩, 19), (⟨"SnapshotVaultModel", "there", "(II)Z"⟩, 19)]
theorem lw_r1 : ∀ q ∈ lw_privs_1, lw_okq q := List.forall_mem_cons.mpr ⟨lw_p0, List.forall_mem_cons.mpr ⟨lw_p1, List.forall_mem_cons.mpr ⟨lw_p2, List.forall_mem_cons.mpr ⟨lw_p3, List.forall_mem_cons.mpr ⟨lw_p4, List.forall_mem_cons.mpr ⟨lw_p5, List.forall_mem_cons.mpr ⟨lw_p6, List.forall_mem_cons.mpr ⟨lw_p7, List.forall_mem_cons.mpr ⟨lw_p8, List.forall_mem_cons.mpr ⟨lw_p9, List.forall_mem_cons.mpr ⟨lw_p10, List.forall_mem_cons.mpr ⟨lw_p11, List.forall_mem_cons.mpr ⟨lw_p12, List.forall_mem_cons.mpr ⟨lw_p13, List.forall_mem_cons.mpr ⟨lw_p14, List.forall_mem_cons.mpr ⟨lw_p15, fun _ h => absurd h List.not_mem_nil⟩⟩⟩⟩⟩⟩⟩⟩⟩⟩⟩⟩⟩⟩⟩⟩
theorem lw_p16 : lw_okq (⟨"SnapshotVaultModel", "dirty", "(I)Z"⟩, 19) := ⟨⟨by decide +kernel, by decide +kernel⟩, List.mem_of_getElem? (i := 339) (by decide +kernel), List.mem_of_getElem? (i := 456) (by decide +kernel), List.mem_of_getElem? (i := 457) (by decide +kernel)⟩
theorem lw_p17 : lw_okq (⟨"SnapshotVaultModel", "moveTo", "(II)I"⟩, 19) := ⟨⟨by decide +kernel, by decide +kernel⟩, List.mem_of_getElem? (i := 339) (by decide +kernel), List.mem_of_getElem? (i := 460) (by decide +kernel), List.mem_of_getElem? (i := 461) (by decide +kernel)⟩
theorem lw_p18 : lw_okq (⟨"SnapshotVaultModel", "reaches", "(II)Z"⟩, 19) := ⟨⟨by decide +kernel, by decide +kernel⟩, List.mem_of_getElem? (i := 339) (by decide +kernel), List.mem_of_getElem? (i := 468) (by decide +kernel), List.mem_of_getElem? (i := 469) (by decide +kernel)⟩
theorem lw_p19 : lw_okq (⟨"SnapshotVaultModel", "reached", "(I)J"⟩, 19) := ⟨⟨by decide +kernel, by decide +kernel⟩, List.mem_of_getElem? (i := 339) (by decide +kernel), List.mem_of_getElem? (i := 472) (by decide +kernel), List.mem_of_getElem? (i := 473) (by decide +kernel)⟩
theorem lw_p20 : lw_okq (⟨"SnapshotVaultModel", "baseOf", "(II)I"⟩, 19) := ⟨⟨by decide +kernel, by decide +kernel⟩, List.mem_of_getElem? (i := 339) (by decide +kernel), List.mem_of_getElem? (i := 476) (by decide +kernel), List.mem_of_getElem? (i := 477) (by decide +kernel)⟩
theorem lw_p21 : lw_okq (⟨"SnapshotVaultModel", "unite", "()Z"⟩, 19) := ⟨⟨by decide +kernel, by decide +kernel⟩, List.mem_of_getElem? (i := 339) (by decide +kernel), List.mem_of_getElem? (i := 480) (by decide +kernel), List.mem_of_getElem? (i := 481) (by decide +kernel)⟩
theorem lw_p22 : lw_okq (⟨"SnapshotVaultModel", "uniteTexts", "(JJJ)J"⟩, 19) := ⟨⟨by decide +kernel, by decide +kernel⟩, List.mem_of_getElem? (i := 339) (by decide +kernel), List.mem_of_getElem? (i := 485) (by decide +kernel), List.mem_of_getElem? (i := 486) (by decide +kernel)⟩
theorem lw_p23 : lw_okq (⟨"SnapshotVaultModel", "matched", "(JJI)I"⟩, 19) := ⟨⟨by decide +kernel, by decide +kernel⟩, List.mem_of_getElem? (i := 339) (by decide +kernel), List.mem_of_getElem? (i := 492) (by decide +kernel), List.mem_of_getElem? (i := 493) (by decide +kernel)⟩
theorem lw_p24 : lw_okq (⟨"SnapshotVaultModel", "subsequences", "(JJ)V"⟩, 19) := ⟨⟨by decide +kernel, by decide +kernel⟩, List.mem_of_getElem? (i := 339) (by decide +kernel), List.mem_of_getElem? (i := 496) (by decide +kernel), List.mem_of_getElem? (i := 497) (by decide +kernel)⟩
theorem lw_p25 : lw_okq (⟨"SnapshotVaultModel", "take", "(JII)V"⟩, 19) := ⟨⟨by decide +kernel, by decide +kernel⟩, List.mem_of_getElem? (i := 339) (by decide +kernel), List.mem_of_getElem? (i := 506) (by decide +kernel), List.mem_of_getElem? (i := 507) (by decide +kernel)⟩
theorem lw_p26 : lw_okq (⟨"SnapshotVaultModel", "putJoined", "(I)V"⟩, 19) := ⟨⟨by decide +kernel, by decide +kernel⟩, List.mem_of_getElem? (i := 339) (by decide +kernel), List.mem_of_getElem? (i := 510) (by decide +kernel), List.mem_of_getElem? (i := 511) (by decide +kernel)⟩
theorem lw_p27 : lw_okq (⟨"SnapshotVaultModel", "again", "(I)Z"⟩, 19) := ⟨⟨by decide +kernel, by decide +kernel⟩, List.mem_of_getElem? (i := 339) (by decide +kernel), List.mem_of_getElem? (i := 518) (by decide +kernel), List.mem_of_getElem? (i := 519) (by decide +kernel)⟩
theorem lw_p28 : lw_okq (⟨"SnapshotVaultModel", "changedNothing", "()Z"⟩, 19) := ⟨⟨by decide +kernel, by decide +kernel⟩, List.mem_of_getElem? (i := 339) (by decide +kernel), List.mem_of_getElem? (i := 522) (by decide +kernel), List.mem_of_getElem? (i := 523) (by decide +kernel)⟩
theorem lw_p29 : lw_okq (⟨"SnapshotVaultModel", "replay", "(J)I"⟩, 19) := ⟨⟨by decide +kernel, by decide +kernel⟩, List.mem_of_getElem? (i := 339) (by decide +kernel), List.mem_of_getElem? (i := 531) (by decide +kernel), List.mem_of_getElem? (i := 532) (by decide +kernel)⟩
def lw_privs_2 : List (MethodName × Nat) := [(⟨"SnapshotVaultModel", "dirty", "(I)Z"⟩, 19), (⟨"SnapshotVaultModel", "moveTo", "(II)I"⟩, 19), (⟨"SnapshotVaultModel", "reaches", "(II)Z"⟩, 19), (⟨"SnapshotVaultModel", "reached", "(I)J"⟩, 19), (⟨"SnapshotVaultModel", "baseOf", "(II)I"⟩, 19), (⟨"SnapshotVaultModel", "unite", "()Z"⟩, 19), (⟨"SnapshotVaultModel", "uniteTexts", "(JJJ)J"⟩, 19), (⟨"SnapshotVaultModel", "matched", "(JJI)I"⟩, 19), (⟨"SnapshotVaultModel", "subsequences", "(JJ)V"⟩, 19), (⟨"SnapshotVaultModel", "take", "(JII)V"⟩, 19), (⟨"SnapshotVaultModel", "putJoined", "(I)V"⟩, 19), (⟨"SnapshotVaultModel", "again", "(I)Z"⟩, 19), (⟨"SnapshotVaultModel", "changedNothing", "()Z"⟩, 19), (⟨"SnapshotVaultModel", "replay", "(J)I"⟩, 19)]
theorem lw_r2 : ∀ q ∈ lw_privs_2, lw_okq q := List.forall_mem_cons.mpr ⟨lw_p16, List.forall_mem_cons.mpr ⟨lw_p17, List.forall_mem_cons.mpr ⟨lw_p18, List.forall_mem_cons.mpr ⟨lw_p19, List.forall_mem_cons.mpr ⟨lw_p20, List.forall_mem_cons.mpr ⟨lw_p21, List.forall_mem_cons.mpr ⟨lw_p22, List.forall_mem_cons.mpr ⟨lw_p23, List.forall_mem_cons.mpr ⟨lw_p24, List.forall_mem_cons.mpr ⟨lw_p25, List.forall_mem_cons.mpr ⟨lw_p26, List.forall_mem_cons.mpr ⟨lw_p27, List.forall_mem_cons.mpr ⟨lw_p28, List.forall_mem_cons.mpr ⟨lw_p29, fun _ h => absurd h List.not_mem_nil⟩⟩⟩⟩⟩⟩⟩⟩⟩⟩⟩⟩⟩⟩
def lw_privs : List (MethodName × Nat) := lw_privs_1 ++ (lw_privs_2)
def lw_tbl : List Cond := k2_sels lw_privs ++ tables_1
theorem lw_privs_ok : ∀ q ∈ lw_privs, lw_okq q := by
  show ∀ q ∈ lw_privs_1 ++ (lw_privs_2), lw_okq q
  exact List.forall_mem_append.mpr ⟨lw_r1, lw_r2⟩
end
section
/-! Names: the classes whose objects the heap holds, their fields. (Printed by gen_names.py.) -/
abbrev tb_rc : String := "SnapshotVault$Repository"
def tn_H : u_T := fun k => match k with
  | 0 => ("SnapshotVault$History", "texts", "[J", true)
  | 1 => ("SnapshotVault$History", "firstParents", "[I", true)
  | 2 => ("SnapshotVault$History", "secondParents", "[I", true)
  | 3 => ("SnapshotVault$History", "reached", "[J", true)
  | _ => ("SnapshotVault$History", "size", "I", false)
def ty_H : Nat → FieldType := fun k => match k with
  | 0 => .array .long
  | 1 => .array .int
  | 2 => .array .int
  | 3 => .array .long
  | _ => .int
def tn_R : u_T := fun k => match k with
  | 0 => ("SnapshotVault$Repository", "tips", "[I", true)
  | 1 => ("SnapshotVault$Repository", "working", "[J", true)
  | 2 => ("SnapshotVault$Repository", "index", "[J", true)
  | 3 => ("SnapshotVault$Repository", "held", "J", false)
  | _ => ("SnapshotVault$Repository", "current", "I", false)
def ty_R : Nat → FieldType := fun k => match k with
  | 0 => .array .int
  | 1 => .array .long
  | 2 => .array .long
  | 3 => .long
  | _ => .int
def tn_U : u_T := fun k => match k with
  | 0 => ("SnapshotVault$Uniter", "united", "[J", true)
  | 1 => ("SnapshotVault$Uniter", "firstPartners", "[I", true)
  | 2 => ("SnapshotVault$Uniter", "secondPartners", "[I", true)
  | _ => ("SnapshotVault$Uniter", "common", "[[I", true)
def ty_U : Nat → FieldType := fun k => match k with
  | 0 => .array .long
  | 1 => .array .int
  | 2 => .array .int
  | _ => .array (.array .int)
def tn_V : u_T := fun k => match k with
  | 0 => ("SnapshotVault", "history", "LSnapshotVault$History;", true)
  | 1 => ("SnapshotVault", "repositories", "[LSnapshotVault$Repository;", true)
  | _ => ("SnapshotVault", "uniter", "LSnapshotVault$Uniter;", true)
def ty_V : Nat → FieldType := fun k => match k with
  | 0 => .object "SnapshotVault$History"
  | 1 => .array (.object "SnapshotVault$Repository")
  | _ => .object "SnapshotVault$Uniter"
def tn_M : u_T := fun k => match k with
  | 0 => ("SnapshotVaultModel", "made", "I", false)
  | 1 => ("SnapshotVaultModel", "texts", "[J", true)
  | 2 => ("SnapshotVaultModel", "first", "[I", true)
  | 3 => ("SnapshotVaultModel", "second", "[I", true)
  | 4 => ("SnapshotVaultModel", "held", "[J", true)
  | 5 => ("SnapshotVaultModel", "tips", "[I", true)
  | 6 => ("SnapshotVaultModel", "now", "[I", true)
  | 7 => ("SnapshotVaultModel", "work", "[J", true)
  | 8 => ("SnapshotVaultModel", "index", "[J", true)
  | 9 => ("SnapshotVaultModel", "origin", "[J", true)
  | 10 => ("SnapshotVaultModel", "ours", "[J", true)
  | 11 => ("SnapshotVaultModel", "theirs", "[J", true)
  | 12 => ("SnapshotVaultModel", "joined", "[J", true)
  | 13 => ("SnapshotVaultModel", "withA", "[I", true)
  | 14 => ("SnapshotVaultModel", "withB", "[I", true)
  | 15 => ("SnapshotVaultModel", "common", "[I", true)
  | 16 => ("SnapshotVaultModel", "taken", "I", false)
  | 17 => ("SnapshotVaultModel", "lines", "[I", true)
  | _ => ("SnapshotVaultModel", "steps", "[J", true)
def ty_M : Nat → FieldType := fun k => match k with
  | 0 => .int
  | 1 => .array .long
  | 2 => .array .int
  | 3 => .array .int
  | 4 => .array .long
  | 5 => .array .int
  | 6 => .array .int
  | 7 => .array .long
  | 8 => .array .long
  | 9 => .array .long
  | 10 => .array .long
  | 11 => .array .long
  | 12 => .array .long
  | 13 => .array .int
  | 14 => .array .int
  | 15 => .array .int
  | 16 => .int
  | 17 => .array .int
  | _ => .array .long
abbrev vwCl : List vw_C := [("SnapshotVault$History", tn_H, 5), ("SnapshotVault$Repository", tn_R, 5), ("SnapshotVault$Uniter", tn_U, 4), ("SnapshotVault", tn_V, 3), ("SnapshotVaultModel", tn_M, 19)]
end
section
/-! A small machine over a list heap: what a method's bytecode does, as a predicate transformer.
Values: .int, .long, .null, .ref k (the k-th cell of the list heap), .retAddr 0 (the script, which no method writes); .float 0 fills unset locals and the second half of a long. -/
def xm_isn : Cond → Bool
  | .fieldLinkNest _ _ _ _ _ _ => true
  | .methodLinkNest _ _ _ _ => true
  | _ => false
def tb_all : List Cond := lw_tbl.filter goodWord
def tb_nest : List Cond := lw_tbl.filter xm_isn
theorem tb_in {w : Cond} (h : w ∈ lw_tbl) (g : goodWord w = true) : w ∈ tb_all := List.mem_filter.mpr ⟨h, g⟩
theorem tb_nin {w : Cond} (h : w ∈ lw_tbl) (g : xm_isn w = true) : w ∈ tb_nest := List.mem_filter.mpr ⟨h, g⟩
theorem tb_good {w : Cond} (hw : w ∈ tb_all) : GoodIn tb_all (w :: tb_all) := fun v h => by
  have hv : v ∈ tb_all := by
    rcases List.mem_cons.mp h with rfl | h
    · exact hw
    · exact h
  exact ⟨hv, good_of_word (List.mem_filter.mp hv).2⟩
abbrev xm_C : Type := (FieldType × vp_A) ⊕ (Nat × List Value)
abbrev xm_H : Type := List xm_C
/-- a method: name, code, locals, what it answers, the cells and slots that a call of it may make -/
abbrev xm_M : Type := MethodName × ByteArray × Nat × Option FieldType × Nat × Nat
abbrev xm_y (M : xm_M) : MethodName := M.1
abbrev xm_by (M : xm_M) : ByteArray := M.2.1
abbrev xm_ml (M : xm_M) : Nat := M.2.2.1
abbrev xm_rt (M : xm_M) : Option FieldType := M.2.2.2.1
abbrev xm_mc (M : xm_M) : Nat := M.2.2.2.2.1
abbrev xm_ms (M : xm_M) : Nat := M.2.2.2.2.2
/-- pc, locals, stack, heap, cells made so far, slots made so far -/
abbrev xm_S : Type := Nat × List Value × List Value × xm_H × Nat × Nat
abbrev xm_Q : Type := Option Value → xm_H → Prop
abbrev xm_K : Type := xm_M → List Value → xm_H → xm_Q → Prop
abbrev xm_J : Type := xm_S → Prop
def xm_sum (st : List Value) : Nat := (st.map fun v => v.category).sum
/-- the words that a method's own call needs -/
def xm_ok (M : xm_M) : Prop := Cond.code (xm_y M) (xm_by M) (xm_ml M) (xm_rt M) ∈ tb_all ∧ Cond.initialized (xm_y M).cls ∈ tb_all ∧ plainName (xm_y M).cls = true ∧ ((xm_y M).cls ≠ "java/lang/invoke/MethodHandle" ∧ (xm_y M).cls ≠ "java/lang/invoke/VarHandle") ∧ xm_ml M ≤ 29
def xm_lk (own : String) (k : Nat) (y : MethodName) : Prop := Cond.methodLink own k y ∈ tb_all ∨ ∃ host, Cond.methodLinkNest own k y host ∈ tb_nest
def xm_fk (own : String) (k : Nat) (q : String × String × String × Bool) : Prop := Cond.fieldLink own k q.1 q.2.1 q.2.2.1 ∈ tb_all ∨ ∃ host, Cond.fieldLinkNest own k q.1 q.2.1 q.2.2.1 host ∈ tb_nest
def xm_np (y : MethodName) (n : Nat) : Prop := (parseMethodDescriptor y.desc).map (fun d => d.parameters.length) = some n
/-- a class whose objects the heap holds -/
def xm_cl (ci : Nat) (C : String) (T : u_T) (N : Nat) (ty : Nat → FieldType) : Prop := vwCl[ci]? = some (C, T, N) ∧ (∀ w ∈ u_ws C T N, w ∈ tb_all) ∧ (∀ k, k < N → parseFieldDescriptor (T k).2.2.1 = some (ty k)) ∧ (∀ a, a < N → ∀ b, b < N → a ≠ b → (T a).2.1 ≠ (T b).2.1)
def xm_oi (own : String) (k : Nat) : Prop := Cond.methodLink own k Lib.objectInit ∈ tb_all ∧ Cond.instanceMethod Lib.objectInit ∈ tb_all ∧ Cond.code Lib.objectInit ⟨#[0xb1]⟩ 1 none ∈ tb_all
def xm_mx (own : String) (k : Nat) : Prop := Cond.methodLink own k Lib.Math.max.name ∈ tb_all ∧ Cond.static Lib.Math.max.name ∈ tb_all ∧ Cond.initialized "java/lang/Math" ∈ tb_all ∧ Cond.code Lib.Math.max.name Lib.Math.max.code 2 (some .int) ∈ tb_all
def xm_plain : Value → Bool
  | .int _ => true
  | .long _ => true
  | .null => true
  | _ => false
def xm_isr (v : Value) : Prop := (∃ k, v = .ref k) ∨ v = .retAddr 0
/-- a call of method M with the arguments as on the stack -/
def xm_inv (call : xm_K) (mi M : xm_M) (pc : Nat) (lo st as : List Value) (h : xm_H) (c s : Nat) (K : xm_J) : Prop :=
  ∃ r, st = as.reverse ++ r ∧ xm_sum r ≤ 8 ∧ c + xm_mc M ≤ xm_mc mi ∧ s + xm_ms M ≤ xm_ms mi ∧
    call M as h (fun v h' => K (pc + 3, lo, v.toList ++ r, h', c + xm_mc M, s + xm_ms M))
def xm_op (L : Nat) (xs : Nat → Int32) (call : xm_K) (mi : xm_M) (i : Instr) (len pc : Nat) (lo st : List Value) (h : xm_H) (c s : Nat) (K : xm_J) (Q : xm_Q) : Prop :=
  match i with
  | .iconst n => len = 1 ∧ K (pc + 1, lo, .int (Int32.ofInt n) :: st, h, c, s)
  | .bipush n => len = 2 ∧ K (pc + 2, lo, .int (Int8.ofInt n).toInt32 :: st, h, c, s)
  | .sipush n => len = 3 ∧ K (pc + 3, lo, .int (Int16.ofInt n).toInt32 :: st, h, c, s)
  | .lconst n => len = 1 ∧ K (pc + 1, lo, .long (Int64.ofNat (n : Nat)) :: st, h, c, s)
  | .ldc2_w k => len = 3 ∧ ∃ x, Cond.constantLong (xm_y mi).cls k x ∈ tb_all ∧ K (pc + 3, lo, .long x :: st, h, c, s)
  | .iload_n n => len = 1 ∧ ∃ x, lo[(n : Nat)]? = some (.int x) ∧ K (pc + 1, lo, .int x :: st, h, c, s)
  | .iload n => len = 2 ∧ ∃ x, lo[n]? = some (.int x) ∧ K (pc + 2, lo, .int x :: st, h, c, s)
  | .lload_n n => len = 1 ∧ ∃ x z, lo[(n : Nat)]? = some (.long x) ∧ lo[(n : Nat) + 1]? = some (.float z) ∧ K (pc + 1, lo, .long x :: st, h, c, s)
  | .lload n => len = 2 ∧ ∃ x z, lo[n]? = some (.long x) ∧ lo[n + 1]? = some (.float z) ∧ K (pc + 2, lo, .long x :: st, h, c, s)
  | .aload_n n => len = 1 ∧ ∃ v, lo[(n : Nat)]? = some v ∧ xm_isr v ∧ K (pc + 1, lo, v :: st, h, c, s)
  | .aload n => len = 2 ∧ ∃ v, lo[n]? = some v ∧ xm_isr v ∧ K (pc + 2, lo, v :: st, h, c, s)
  | .istore_n n => len = 1 ∧ ∃ x r, st = .int x :: r ∧ (n : Nat) < lo.length ∧ K (pc + 1, lo.set n (.int x), r, h, c, s)
  | .istore n => len = 2 ∧ ∃ x r, st = .int x :: r ∧ n < lo.length ∧ K (pc + 2, lo.set n (.int x), r, h, c, s)
  | .lstore_n n => len = 1 ∧ ∃ x r, st = .long x :: r ∧ (n : Nat) + 1 < lo.length ∧ K (pc + 1, (lo.set n (.long x)).set (n + 1) (.float 0), r, h, c, s)
  | .lstore n => len = 2 ∧ ∃ x r, st = .long x :: r ∧ n + 1 < lo.length ∧ K (pc + 2, (lo.set n (.long x)).set (n + 1) (.float 0), r, h, c, s)
  | .astore_n n => len = 1 ∧ ∃ k r, st = .ref k :: r ∧ (n : Nat) < lo.length ∧ K (pc + 1, lo.set n (.ref k), r, h, c, s)
  | .astore n => len = 2 ∧ ∃ k r, st = .ref k :: r ∧ n < lo.length ∧ K (pc + 2, lo.set n (.ref k), r, h, c, s)
  | .iinc n k => len = 3 ∧ ∃ x, lo[n]? = some (.int x) ∧ K (pc + 3, lo.set n (.int (x + Int32.ofInt k)), st, h, c, s)
  | .iadd => len = 1 ∧ ∃ x y r, st = .int y :: .int x :: r ∧ K (pc + 1, lo, .int (x + y) :: r, h, c, s)
  | .isub => len = 1 ∧ ∃ x y r, st = .int y :: .int x :: r ∧ K (pc + 1, lo, .int (x - y) :: r, h, c, s)
  | .imul => len = 1 ∧ ∃ x y r, st = .int y :: .int x :: r ∧ K (pc + 1, lo, .int (x * y) :: r, h, c, s)
  | .iand => len = 1 ∧ ∃ x y r, st = .int y :: .int x :: r ∧ K (pc + 1, lo, .int (x &&& y) :: r, h, c, s)
  | .ladd => len = 1 ∧ ∃ x y r, st = .long y :: .long x :: r ∧ K (pc + 1, lo, .long (x + y) :: r, h, c, s)
  | .lsub => len = 1 ∧ ∃ x y r, st = .long y :: .long x :: r ∧ K (pc + 1, lo, .long (x - y) :: r, h, c, s)
  | .land => len = 1 ∧ ∃ x y r, st = .long y :: .long x :: r ∧ K (pc + 1, lo, .long (x &&& y) :: r, h, c, s)
  | .lor => len = 1 ∧ ∃ x y r, st = .long y :: .long x :: r ∧ K (pc + 1, lo, .long (x ||| y) :: r, h, c, s)
  | .lxor => len = 1 ∧ ∃ x y r, st = .long y :: .long x :: r ∧ K (pc + 1, lo, .long (x ^^^ y) :: r, h, c, s)
  | .lshl => len = 1 ∧ ∃ (x : Int64) (y : Int32) (r : List Value), st = .int y :: .long x :: r ∧ K (pc + 1, lo, .long (x <<< (y.toInt64 &&& 63)) :: r, h, c, s)
  | .lshr => len = 1 ∧ ∃ (x : Int64) (y : Int32) (r : List Value), st = .int y :: .long x :: r ∧ K (pc + 1, lo, .long (x >>> (y.toInt64 &&& 63)) :: r, h, c, s)
  | .lushr => len = 1 ∧ ∃ (x : Int64) (y : Int32) (r : List Value), st = .int y :: .long x :: r ∧ K (pc + 1, lo, .long (x.toUInt64 >>> (y.toInt64.toUInt64 &&& Int64.toUInt64 63)).toInt64 :: r, h, c, s)
  | .i2l => len = 1 ∧ ∃ (x : Int32) (r : List Value), st = .int x :: r ∧ K (pc + 1, lo, .long x.toInt64 :: r, h, c, s)
  | .l2i => len = 1 ∧ ∃ (x : Int64) (r : List Value), st = .long x :: r ∧ K (pc + 1, lo, .int x.toInt32 :: r, h, c, s)
  | .lcmp => len = 1 ∧ ∃ x y r, st = .long y :: .long x :: r ∧ K (pc + 1, lo, .int (lg_cmp x y) :: r, h, c, s)
  | .dup => len = 1 ∧ ∃ v r, st = v :: r ∧ v.category = 1 ∧ K (pc + 1, lo, v :: v :: r, h, c, s)
  | .pop => len = 1 ∧ ∃ v r, st = v :: r ∧ v.category = 1 ∧ K (pc + 1, lo, r, h, c, s)
  | .ifCond o off => len = 3 ∧ ∃ (t : Nat) (x : Int32) (r : List Value), (pc : Int) + off = (t : Int) ∧ st = .int x :: r ∧ (match o with
    | .eq => (x = 0 → K (t, lo, r, h, c, s)) ∧ (¬ x = 0 → K (pc + 3, lo, r, h, c, s))
    | .ne => (¬ x = 0 → K (t, lo, r, h, c, s)) ∧ (x = 0 → K (pc + 3, lo, r, h, c, s))
    | .lt => (x < 0 → K (t, lo, r, h, c, s)) ∧ (¬ x < 0 → K (pc + 3, lo, r, h, c, s))
    | .ge => (0 ≤ x → K (t, lo, r, h, c, s)) ∧ (¬ 0 ≤ x → K (pc + 3, lo, r, h, c, s))
    | .gt => (0 < x → K (t, lo, r, h, c, s)) ∧ (¬ 0 < x → K (pc + 3, lo, r, h, c, s))
    | .le => (x ≤ 0 → K (t, lo, r, h, c, s)) ∧ (¬ x ≤ 0 → K (pc + 3, lo, r, h, c, s)))
  | .if_icmp o off => len = 3 ∧ ∃ (t : Nat) (x y : Int32) (r : List Value), (pc : Int) + off = (t : Int) ∧ st = .int y :: .int x :: r ∧ (match o with
    | .eq => (x = y → K (t, lo, r, h, c, s)) ∧ (¬ x = y → K (pc + 3, lo, r, h, c, s))
    | .ne => (¬ x = y → K (t, lo, r, h, c, s)) ∧ (x = y → K (pc + 3, lo, r, h, c, s))
    | .lt => (x < y → K (t, lo, r, h, c, s)) ∧ (¬ x < y → K (pc + 3, lo, r, h, c, s))
    | .ge => (y ≤ x → K (t, lo, r, h, c, s)) ∧ (¬ y ≤ x → K (pc + 3, lo, r, h, c, s))
    | .gt => (y < x → K (t, lo, r, h, c, s)) ∧ (¬ y < x → K (pc + 3, lo, r, h, c, s))
    | .le => (x ≤ y → K (t, lo, r, h, c, s)) ∧ (¬ x ≤ y → K (pc + 3, lo, r, h, c, s)))
  | .goto off => len = 3 ∧ ∃ t : Nat, (pc : Int) + off = (t : Int) ∧ K (t, lo, st, h, c, s)
  | .tableswitch d0 l0 h0 offs => ∃ x r, st = .int x :: r ∧ ∃ tg : Nat, (((x.toInt < l0 ∨ h0 < x.toInt) ∧ (pc : Int) + d0 = (tg : Int)) ∨ (¬ x.toInt < l0 ∧ ¬ h0 < x.toInt ∧ ∃ off, offs[(x.toInt - l0).toNat]? = some off ∧ (pc : Int) + off = (tg : Int))) ∧ K (tg, lo, r, h, c, s)
  | .arraylength => len = 1 ∧ ∃ r, st = .retAddr 0 :: r ∧ K (pc + 1, lo, .int (Int32.ofNat L) :: r, h, c, s)
  | .iaload => len = 1 ∧ ((∃ i r, st = .int i :: .retAddr 0 :: r ∧ vp_in i L ∧ K (pc + 1, lo, .int (xs i.toNatClampNeg) :: r, h, c, s)) ∨
      ∃ i a r n f, st = .int i :: .ref a :: r ∧ h[a]? = some (.inl (.int, n, .inl f)) ∧ vp_in i n ∧ K (pc + 1, lo, .int (f i.toNatClampNeg) :: r, h, c, s))
  | .laload => len = 1 ∧ ∃ i a r n f, st = .int i :: .ref a :: r ∧ h[a]? = some (.inl (.long, n, .inr (.inl f))) ∧ vp_in i n ∧ K (pc + 1, lo, .long (f i.toNatClampNeg) :: r, h, c, s)
  | .aaload => len = 1 ∧ ∃ i a r ty n f q, st = .int i :: .ref a :: r ∧ h[a]? = some (.inl (ty, n, .inr (.inr (.inr (.inr f))))) ∧ (ty = .array .int ∨ ty = .object tb_rc) ∧ vp_in i n ∧ f i.toNatClampNeg = some q ∧ K (pc + 1, lo, .ref q :: r, h, c, s)
  | .iastore => len = 1 ∧ ∃ x i a r n f, st = .int x :: .int i :: .ref a :: r ∧ h[a]? = some (.inl (.int, n, .inl f)) ∧ vp_in i n ∧ K (pc + 1, lo, r, h.set a (.inl (.int, n, .inl (upd f i.toNatClampNeg x))), c, s)
  | .lastore => len = 1 ∧ ∃ x i a r n f, st = .long x :: .int i :: .ref a :: r ∧ h[a]? = some (.inl (.long, n, .inr (.inl f))) ∧ vp_in i n ∧ K (pc + 1, lo, r, h.set a (.inl (.long, n, .inr (.inl (vp_updL f i.toNatClampNeg x)))), c, s)
  | .aastore => len = 1 ∧ ∃ v i a r ci fs n f, st = .ref v :: .int i :: .ref a :: r ∧ h[a]? = some (.inl (.object tb_rc, n, .inr (.inr (.inr (.inr f))))) ∧ (∃ q, vwCl[ci]? = some q ∧ q.1 = tb_rc) ∧ h[v]? = some (.inr (ci, fs)) ∧ vp_in i n ∧ K (pc + 1, lo, r, h.set a (.inl (.object tb_rc, n, .inr (.inr (.inr (.inr (va_up f i.toNatClampNeg (some v))))))), c, s)
  | .getfield k => len = 3 ∧ ∃ a r ci j fs v C T N ty, xm_cl ci C T N ty ∧ j < N ∧ xm_fk (xm_y mi).cls k (T j) ∧ st = .ref a :: r ∧ h[a]? = some (.inr (ci, fs)) ∧ fs[j]? = some v ∧ K (pc + 3, lo, v :: r, h, c, s)
  | .putfield k => len = 3 ∧ ∃ v a r ci j fs C T N ty, xm_cl ci C T N ty ∧ j < N ∧ xm_fk (xm_y mi).cls k (T j) ∧ ((T j).2.2.2 = false ∨ ((T j).2.2.2 = true ∧ (T j).1 = (xm_y mi).cls ∧ (xm_y mi).name = "<init>" ∧ Cond.fieldLink (xm_y mi).cls k (T j).1 (T j).2.1 (T j).2.2.1 ∈ tb_all)) ∧
      st = v :: .ref a :: r ∧ h[a]? = some (.inr (ci, fs)) ∧ j < fs.length ∧ narrow (ty j) v = v ∧ fits (ty j) v = true ∧ K (pc + 3, lo, r, h.set a (.inr (ci, fs.set j v)), c, s)
  | .newarray ty => len = 2 ∧ ∃ n r, st = .int n :: r ∧ ¬ n < 0 ∧ n.toNatClampNeg ≤ 65536 ∧ c + 1 ≤ xm_mc mi ∧ s + n.toNatClampNeg ≤ xm_ms mi ∧ (match ty with
    | .int => Cond.arrayClass .int ∈ tb_all ∧ K (pc + 2, lo, .ref h.length :: r, h ++ [.inl (.int, n.toNatClampNeg, .inl (fun _ => 0))], c + 1, s + n.toNatClampNeg)
    | .long => Cond.arrayClass .long ∈ tb_all ∧ K (pc + 2, lo, .ref h.length :: r, h ++ [.inl (.long, n.toNatClampNeg, .inr (.inl (fun _ => 0)))], c + 1, s + n.toNatClampNeg)
    | _ => False)
  | .anewarray k => len = 3 ∧ ∃ n r, Cond.classLink (xm_y mi).cls k tb_rc ∈ tb_all ∧ st = .int n :: r ∧ ¬ n < 0 ∧ n.toNatClampNeg ≤ 65536 ∧ c + 1 ≤ xm_mc mi ∧ s + n.toNatClampNeg ≤ xm_ms mi ∧ K (pc + 3, lo, .ref h.length :: r, h ++ [.inl (.object tb_rc, n.toNatClampNeg, .inr (.inr (.inr (.inr (fun _ => none)))))], c + 1, s + n.toNatClampNeg)
  | .multianewarray k d0 => len = 4 ∧ ∃ r, d0 = 2 ∧ Cond.classLink (xm_y mi).cls k "[[I" ∈ tb_all ∧ st = .int 9 :: .int 9 :: r ∧ c + 10 ≤ xm_mc mi ∧ s + 90 ≤ xm_ms mi ∧ K (pc + 4, lo, .ref h.length :: r, h ++ .inl (.array .int, 9, .inr (.inr (.inr (.inr (fun j => some (h.length + 1 + j)))))) :: List.replicate 9 (.inl (.int, 9, .inl (fun _ => 0))), c + 10, s + 90)
  | .new k => len = 3 ∧ ∃ ci C T N ty fs, xm_cl ci C T N ty ∧ Cond.classLink (xm_y mi).cls k C ∈ tb_all ∧ Cond.instantiable C N ∈ tb_all ∧ Cond.initialized C ∈ tb_all ∧ (∀ j, j < N → defaultValue (ty j) = vp_V fs j) ∧ fs.all xm_plain = true ∧ c + 1 ≤ xm_mc mi ∧ s + N ≤ xm_ms mi ∧ K (pc + 3, lo, .ref h.length :: st, h ++ [.inr (ci, fs)], c + 1, s + N)
  | .invokestatic k => len = 3 ∧ ((xm_mx (xm_y mi).cls k ∧ ∃ x y r, st = .int y :: .int x :: r ∧ xm_sum r ≤ 8 ∧ K (pc + 3, lo, .int (if x < y then y else x) :: r, h, c, s)) ∨
      ∃ M as, xm_ok M ∧ xm_lk (xm_y mi).cls k (xm_y M) ∧ Cond.static (xm_y M) ∈ tb_all ∧ xm_np (xm_y M) as.length ∧ xm_inv call mi M pc lo st as h c s K)
  | .invokevirtual k => len = 3 ∧ ∃ M as a ci fs C T N ty, xm_ok M ∧ xm_lk (xm_y mi).cls k (xm_y M) ∧ Cond.instanceMethod (xm_y M) ∈ tb_all ∧ Cond.selects (xm_y M).cls (xm_y M) (xm_y M) ∈ tb_all ∧ xm_np (xm_y M) as.length ∧ xm_cl ci C T N ty ∧ C = (xm_y M).cls ∧ h[a]? = some (.inr (ci, fs)) ∧ xm_inv call mi M pc lo st (.ref a :: as) h c s K
  | .invokespecial k => len = 3 ∧ ((xm_oi (xm_y mi).cls k ∧ ∃ a r, st = .ref a :: r ∧ xm_sum r ≤ 8 ∧ K (pc + 3, lo, r, h, c, s)) ∨
      ∃ M as a, xm_ok M ∧ xm_rt M = none ∧ xm_lk (xm_y mi).cls k (xm_y M) ∧ (xm_y M).name = "<init>" ∧ Cond.instanceMethod (xm_y M) ∈ tb_all ∧ xm_np (xm_y M) as.length ∧ xm_inv call mi M pc lo st (.ref a :: as) h c s K)
  | .ireturn => len = 1 ∧ ∃ x ty, st = [.int x] ∧ xm_rt mi = some ty ∧ narrow ty (.int x) = .int x ∧ Q (some (.int x)) h
  | .lreturn => len = 1 ∧ ∃ x, st = [.long x] ∧ xm_rt mi = some .long ∧ Q (some (.long x)) h
  | .return_ => len = 1 ∧ st = [] ∧ xm_rt mi = none ∧ Q none h
  | _ => False
/-- P holds where a step leads to P, or to a return with Q -/
def xm_cls (L : Nat) (xs : Nat → Int32) (call : xm_K) (mi : xm_M) (Q : xm_Q) (P : xm_J) : Prop :=
  ∀ (pc : Nat) (lo st : List Value) (h : xm_H) (c s : Nat) (i : Instr) (len : Nat), decode (xm_by mi) pc = .ok (i, len) → xm_op L xs call mi i len pc lo st h c s P Q → P (pc, lo, st, h, c, s)
/-- the machine comes from σ to a return with Q -/
def xm_X (L : Nat) (xs : Nat → Int32) (call : xm_K) (mi : xm_M) (σ : xm_S) (Q : xm_Q) : Prop := ∀ P : xm_J, xm_cls L xs call mi Q P → P σ
/-- the locals with which a method begins -/
def xm_lay : List Value → List Value
  | [] => []
  | v :: vs => if v.category = 2 then v :: .float 0 :: xm_lay vs else v :: xm_lay vs
def xm_ent (nL : Nat) (as : List Value) : List Value := xm_lay as ++ List.replicate (nL - (xm_lay as).length) (.float 0)
def xm_call (L : Nat) (xs : Nat → Int32) : Nat → xm_K
  | 0, _, _, _, _ => False
  | d + 1, M, as, h, Q => (xm_lay as).length ≤ xm_ml M ∧ xm_X L xs (xm_call L xs d) M (0, xm_ent (xm_ml M) as, [], h, 0, 0) Q
end
section
/-! The list heap and the real one: a world ws (the kit's va_W), position by position. -/
/-- a value of the small machine and the real one: ad, the real addresses of the cells; b, the script -/
def xm_v (ad : List Nat) (b : Nat) (v w : Value) : Prop := match v with
  | .int x => w = .int x
  | .long x => w = .long x
  | .null => w = .null
  | .ref k => ∃ a, ad[k]? = some a ∧ w = .ref a
  | .retAddr _ => w = .ref b
  | _ => False
theorem xm_get_app {α : Type} {l x : List α} {k : Nat} {a : α} (h : l[k]? = some a) : (l ++ x)[k]? = some a := by
  rw [List.getElem?_append_left (List.getElem?_eq_some_iff.mp h).1]; exact h
theorem xm_v_mono {ad : List Nat} (x : List Nat) {b : Nat} {v w : Value} (h : xm_v ad b v w) : xm_v (ad ++ x) b v w := by
  cases v with
  | ref k => obtain ⟨a, h1, h2⟩ := h; exact ⟨a, xm_get_app h1, h2⟩
  | _ => exact h
theorem xm_v_cat {ad : List Nat} {b : Nat} {v w : Value} (h : xm_v ad b v w) : w.category = v.category := by
  cases v with
  | int x => rw [show w = .int x from h]
  | long x => rw [show w = .long x from h]
  | null => rw [show w = .null from h]
  | ref k => obtain ⟨a, -, h2⟩ := h; rw [h2]; rfl
  | retAddr k => rw [show w = .ref b from h]; rfl
  | float x => exact h.elim
  | double x => exact h.elim
def xm_o (ad : List Nat) (f g : Option Nat) : Prop := match f with
  | none => g = none
  | some k => ∃ a, ad[k]? = some a ∧ g = some a
theorem xm_o_mono {ad : List Nat} (x : List Nat) {f g : Option Nat} (h : xm_o ad f g) : xm_o (ad ++ x) f g := by
  cases f with
  | none => exact h
  | some k => obtain ⟨a, h1, h2⟩ := h; exact ⟨a, xm_get_app h1, h2⟩
/-- stacks and argument lists -/
def xm_st (ad : List Nat) (b : Nat) : List Value → List Value → Prop
  | [], ws => ws = []
  | v :: vs, ws => ∃ w r, ws = w :: r ∧ xm_v ad b v w ∧ xm_st ad b vs r
theorem xm_st_mono {ad : List Nat} (x : List Nat) {b : Nat} : ∀ {vs ws : List Value}, xm_st ad b vs ws → xm_st (ad ++ x) b vs ws
  | [], _, h => h
  | _ :: _, _, ⟨w, r, h1, h2, h3⟩ => ⟨w, r, h1, xm_v_mono x h2, xm_st_mono x h3⟩
theorem xm_st_len {ad : List Nat} {b : Nat} : ∀ {vs ws : List Value}, xm_st ad b vs ws → ws.length = vs.length
  | [], _, h => by rw [show _ = [] from h]
  | _ :: _, _, ⟨w, r, h1, _, h3⟩ => by rw [h1, List.length_cons, List.length_cons, xm_st_len h3]
theorem xm_st_sum {ad : List Nat} {b : Nat} : ∀ {vs ws : List Value}, xm_st ad b vs ws → xm_sum ws = xm_sum vs
  | [], _, h => by rw [show _ = [] from h]
  | _ :: _, _, ⟨w, r, h1, h2, h3⟩ => by
    have e := xm_st_sum h3
    unfold xm_sum at e ⊢
    rw [h1]
    simp only [List.map_cons, List.sum_cons]
    rw [e, xm_v_cat h2]
theorem xm_st_app {ad : List Nat} {b : Nat} : ∀ {xs ys ws : List Value}, xm_st ad b (xs ++ ys) ws → ∃ w1 w2, ws = w1 ++ w2 ∧ xm_st ad b xs w1 ∧ xm_st ad b ys w2
  | [], _, ws, h => ⟨[], ws, rfl, rfl, h⟩
  | _ :: _, _, _, ⟨w, r, h1, h2, h3⟩ => by
    obtain ⟨w1, w2, e1, e2, e3⟩ := xm_st_app h3
    exact ⟨w :: w1, w2, by rw [h1, e1]; rfl, ⟨w, w1, rfl, h2, e2⟩, e3⟩
theorem xm_st_join {ad : List Nat} {b : Nat} : ∀ {xs ys w1 w2 : List Value}, xm_st ad b xs w1 → xm_st ad b ys w2 → xm_st ad b (xs ++ ys) (w1 ++ w2)
  | [], _, _, _, h1, h2 => by rw [show _ = [] from h1]; exact h2
  | _ :: _, _, _, _, ⟨w, r, h1, h2, h3⟩, h4 => by rw [h1]; exact ⟨w, r ++ _, rfl, h2, xm_st_join h3 h4⟩
theorem xm_st_rev {ad : List Nat} {b : Nat} : ∀ {xs ws : List Value}, xm_st ad b xs ws → xm_st ad b xs.reverse ws.reverse
  | [], _, h => by rw [show _ = [] from h]; exact rfl
  | _ :: _, _, ⟨w, r, h1, h2, h3⟩ => by
    rw [h1, List.reverse_cons, List.reverse_cons]
    exact xm_st_join (xm_st_rev h3) ⟨w, [], rfl, h2, rfl⟩
/-- cells -/
def xm_c (ad : List Nat) (b : Nat) (dA : FieldType → ClassId) (v : xm_C) (w : va_E) : Prop := match v with
  | .inl (ty, n, .inl f) => w = .inl (dA ty, n, .inl f)
  | .inl (ty, n, .inr (.inl f)) => w = .inl (dA ty, n, .inr (.inl f))
  | .inl (ty, n, .inr (.inr (.inr (.inr f)))) => ∃ g, w = .inl (dA ty, n, .inr (.inr (.inr (.inr g)))) ∧ ∀ j, j < n → xm_o ad (f j) (g j)
  | .inl _ => False
  | .inr (ci, fs) => ∃ gs, w = .inr (ci, gs) ∧ xm_st ad b fs gs
theorem xm_c_mono {ad : List Nat} (x : List Nat) {b : Nat} {dA : FieldType → ClassId} {v : xm_C} {w : va_E} (h : xm_c ad b dA v w) : xm_c (ad ++ x) b dA v w := by
  match v, h with
  | .inl (ty, n, .inl f), h => exact h
  | .inl (ty, n, .inr (.inl f)), h => exact h
  | .inl (ty, n, .inr (.inr (.inr (.inr f)))), ⟨g, h1, h2⟩ => exact ⟨g, h1, fun j hj => xm_o_mono x (h2 j hj)⟩
  | .inr (ci, fs), ⟨gs, h1, h2⟩ => exact ⟨gs, h1, xm_st_mono x h2⟩
abbrev xm_ad (ws : va_W) : List Nat := ws.map (fun q => q.1)
def xm_R (ad : List Nat) (b : Nat) (dA : FieldType → ClassId) (h : xm_H) (ws : va_W) : Prop := ws.length = h.length ∧ (∀ (k : Nat) (v : xm_C) (q : Nat × va_E), h[k]? = some v → ws[k]? = some q → xm_c (xm_ad ws) b dA v q.2) ∧ ∃ x, xm_ad ws = ad ++ x
theorem xm_R_self {ad : List Nat} {b : Nat} {dA : FieldType → ClassId} {h : xm_H} {ws : va_W} (hR : xm_R ad b dA h ws) : xm_R (xm_ad ws) b dA h ws := ⟨hR.1, hR.2.1, [], by simp⟩
theorem xm_R_trans {ad : List Nat} {b : Nat} {dA : FieldType → ClassId} {h h1 : xm_H} {ws ws1 : va_W} (hR : xm_R ad b dA h ws) (hR1 : xm_R (xm_ad ws) b dA h1 ws1) : xm_R ad b dA h1 ws1 := by
  obtain ⟨x, hx⟩ := hR.2.2
  obtain ⟨y, hy⟩ := hR1.2.2
  exact ⟨hR1.1, hR1.2.1, x ++ y, by rw [hy, hx, List.append_assoc]⟩
theorem xm_R_get {ad : List Nat} {b : Nat} {dA : FieldType → ClassId} {h : xm_H} {ws : va_W} (hR : xm_R ad b dA h ws) {k : Nat} {v : xm_C} (hk : h[k]? = some v) : ∃ a e, ws[k]? = some (a, e) ∧ (xm_ad ws)[k]? = some a ∧ xm_c (xm_ad ws) b dA v e := by
  have hl : k < ws.length := by rw [hR.1]; exact (List.getElem?_eq_some_iff.mp hk).1
  have e1 : ws[k]? = some ws[k] := List.getElem?_eq_getElem hl
  exact ⟨ws[k].1, ws[k].2, e1, by rw [List.getElem?_map, e1]; rfl, hR.2.1 k v _ hk e1⟩
theorem xm_ad_set {ws : va_W} {k a : Nat} {e0 e : va_E} (hk : ws[k]? = some (a, e0)) : xm_ad (ws.set k (a, e)) = xm_ad ws := by
  apply List.ext_getElem?
  intro j
  rw [List.getElem?_map, List.getElem?_map, List.getElem?_set]
  split
  · rename_i h
    subst h
    rw [hk]
    split
    · rfl
    · rename_i h2
      exact absurd (List.getElem?_eq_some_iff.mp hk).1 h2
  · rfl
theorem xm_R_set {ad : List Nat} {b : Nat} {dA : FieldType → ClassId} {h : xm_H} {ws : va_W} (hR : xm_R ad b dA h ws) {k a : Nat} {e0 e : va_E} {v : xm_C} (hk : ws[k]? = some (a, e0)) (hc : xm_c (xm_ad ws) b dA v e) : xm_R ad b dA (h.set k v) (ws.set k (a, e)) := by
  refine ⟨by rw [List.length_set, List.length_set]; exact hR.1, fun j u q hj hq => ?_, by rw [xm_ad_set hk]; exact hR.2.2⟩
  rw [xm_ad_set hk]
  rw [List.getElem?_set] at hj hq
  split at hj
  · rename_i h1
    rw [if_pos h1] at hq
    split at hj
    · split at hq
      · cases hj; cases hq; exact hc
      · cases hq
    · cases hj
  · rename_i h1
    rw [if_neg h1] at hq
    exact hR.2.1 j u q hj hq
theorem xm_R_push {ad : List Nat} {b : Nat} {dA : FieldType → ClassId} {h : xm_H} {ws : va_W} (hR : xm_R ad b dA h ws) {q : Nat} {e : va_E} {v : xm_C} (hc : xm_c (xm_ad ws ++ [q]) b dA v e) : xm_R ad b dA (h ++ [v]) (ws ++ [(q, e)]) := by
  have e1 : xm_ad (ws ++ [(q, e)]) = xm_ad ws ++ [q] := by simp [xm_ad]
  refine ⟨by simp [hR.1], fun j u x hj hx => ?_, by obtain ⟨x, hx⟩ := hR.2.2; exact ⟨x ++ [q], by rw [e1, hx, List.append_assoc]⟩⟩
  rw [e1]
  by_cases hl : j < h.length
  · rw [List.getElem?_append_left hl] at hj
    rw [List.getElem?_append_left (by rw [hR.1]; exact hl)] at hx
    exact xm_c_mono [q] (hR.2.1 j u x hj hx)
  · rw [List.getElem?_append_right (by omega)] at hj
    rw [List.getElem?_append_right (by rw [hR.1]; omega), hR.1] at hx
    have hz : j - h.length < 1 := (List.getElem?_eq_some_iff.mp hj).1
    rw [show j - h.length = 0 by omega] at hj hx
    cases hj
    cases hx
    exact hc
/-- locals -/
def xm_live (lo : List Value) (i : Nat) (v : Value) : Prop := lo[i]? = some v ∧ match v with
  | .long _ => ∃ z, lo[i + 1]? = some (.float z)
  | .float _ => False
  | .double _ => False
  | _ => True
def xm_l (ad : List Nat) (b nL : Nat) (lo : List Value) (ls : Array Slot) : Prop := ls.size = nL ∧ lv_wf ls ∧ lo.length = nL ∧ ∀ (i : Nat) (v : Value), xm_live lo i v → ∃ w, xm_v ad b v w ∧ ls[i]? = some (.val w)
theorem xm_l_mono {ad : List Nat} (x : List Nat) {b nL : Nat} {lo : List Value} {ls : Array Slot} (h : xm_l ad b nL lo ls) : xm_l (ad ++ x) b nL lo ls := ⟨h.1, h.2.1, h.2.2.1, fun i v hv => by
  obtain ⟨w, h1, h2⟩ := h.2.2.2 i v hv
  exact ⟨w, xm_v_mono x h1, h2⟩⟩
/-- all that the real locals hold -/
def xm_sv (i : Nat) (z : Option Slot) : Option (Nat × Value) := match z with
  | some (Slot.val w) => some (i, w)
  | _ => none
def xm_all (ls : Array Slot) : List (Nat × Value) := (List.range ls.size).filterMap (fun i => xm_sv i ls[i]?)
theorem xm_all_mem {ls : Array Slot} {i : Nat} {w : Value} : (i, w) ∈ xm_all ls ↔ ls[i]? = some (.val w) := by
  unfold xm_all
  rw [List.mem_filterMap]
  constructor
  · rintro ⟨j, -, h⟩
    unfold xm_sv at h
    split at h
    · rename_i u hu
      cases h
      exact hu
    · cases h
  · intro h
    exact ⟨i, List.mem_range.mpr (Array.getElem?_eq_some_iff.mp h).1, by rw [h]; rfl⟩
theorem xm_all_has {ad : List Nat} {b nL : Nat} {lo : List Value} {ls : Array Slot} (h : xm_l ad b nL lo ls) : lv_has ls nL (xm_all ls) := ⟨h.1, h.2.1, fun q hq => xm_all_mem.mp hq⟩
theorem xm_l_set1 {ad : List Nat} {b nL : Nat} {lo : List Value} {ls ls' : Array Slot} {i : Nat} {v w : Value} (h : xm_l ad b nL lo ls) (hi : i < lo.length) (hv : xm_v ad b v w) (hc : v.category = 1)
    (h' : lv_has ls' nL ((i, w) :: (xm_all ls).filter (fun q => !(q.1 == i) && !(q.1 + 1 == i && q.2.category == 2)))) : xm_l ad b nL (lo.set i v) ls' := by
  refine ⟨h'.1, h'.2.1, by rw [List.length_set]; exact h.2.2.1, fun j u hu => ?_⟩
  by_cases hj : j = i
  · subst hj
    have e1 : u = v := by
      have := hu.1
      rw [List.getElem?_set_self hi] at this
      exact (Option.some.inj this).symm
    subst e1
    exact ⟨w, hv, h'.2.2 (j, w) List.mem_cons_self⟩
  · have e1 : lo[j]? = some u := by rw [← hu.1, List.getElem?_set_ne (fun q => hj q.symm)]
    have hlive : xm_live lo j u := by
      refine ⟨e1, ?_⟩
      have h2 := hu.2
      cases u with
      | long x =>
        obtain ⟨z, hz⟩ := h2
        by_cases hji : i = j + 1
        · subst hji
          rw [List.getElem?_set_self hi] at hz
          have e2 := Option.some.inj hz
          rw [e2] at hv
          exact hv.elim
        · rw [List.getElem?_set_ne hji] at hz
          exact ⟨z, hz⟩
      | _ => exact h2
    obtain ⟨w2, h1, h2⟩ := h.2.2.2 j u hlive
    refine ⟨w2, h1, h'.2.2 (j, w2) (List.mem_cons_of_mem _ (List.mem_filter.mpr ⟨xm_all_mem.mpr h2, ?_⟩))⟩
    simp only [Bool.and_eq_true, Bool.not_eq_true', beq_eq_false_iff_ne, ne_eq, Bool.and_eq_false_iff]
    refine ⟨hj, ?_⟩
    by_cases hji : j + 1 = i
    · right
      rw [xm_v_cat h1]
      intro hcat
      have hu2 := hu.2
      cases u with
      | long x =>
        obtain ⟨z, hz⟩ := hu2
        rw [hji, List.getElem?_set_self hi] at hz
        have e2 := Option.some.inj hz
        rw [e2] at hv
        exact hv.elim
      | double x => exact hu2.elim
      | _ => simp [Value.category] at hcat
    · left
      exact hji
theorem xm_l_set2 {ad : List Nat} {b nL : Nat} {lo : List Value} {ls ls' : Array Slot} {i : Nat} {x : Int64} (h : xm_l ad b nL lo ls) (hi : i + 1 < lo.length)
    (h' : lv_has ls' nL ((i, Value.long x) :: (xm_all ls).filter (fun q => !(q.1 == i) && (!(q.1 == i + 1) && !(q.1 + 1 == i && q.2.category == 2))))) : xm_l ad b nL ((lo.set i (.long x)).set (i + 1) (.float 0)) ls' := by
  have hlen : ((lo.set i (.long x)).set (i + 1) (.float 0)).length = nL := by rw [List.length_set, List.length_set]; exact h.2.2.1
  have hself : ((lo.set i (.long x)).set (i + 1) (.float 0))[i + 1]? = some (.float 0) := List.getElem?_set_self (by rw [List.length_set]; exact hi)
  have hat : ((lo.set i (.long x)).set (i + 1) (.float 0))[i]? = some (.long x) := by
    rw [List.getElem?_set_ne (by omega), List.getElem?_set_self (by omega)]
  have hne : ∀ j, j ≠ i → j ≠ i + 1 → ((lo.set i (.long x)).set (i + 1) (.float 0))[j]? = lo[j]? := fun j h1 h2 => by
    rw [List.getElem?_set_ne (fun q => h2 q.symm), List.getElem?_set_ne (fun q => h1 q.symm)]
  refine ⟨h'.1, h'.2.1, hlen, fun j u hu => ?_⟩
  by_cases hj : j = i
  · subst hj
    have e1 := hu.1
    rw [hat] at e1
    have e2 := (Option.some.inj e1).symm
    subst e2
    exact ⟨.long x, rfl, h'.2.2 (j, .long x) List.mem_cons_self⟩
  · by_cases hj1 : j = i + 1
    · subst hj1
      have e1 := hu.1
      rw [hself] at e1
      have e2 := (Option.some.inj e1).symm
      subst e2
      exact hu.2.elim
    · have e1 : lo[j]? = some u := by rw [← hne j hj hj1]; exact hu.1
      have hno : ∀ y, u = .long y → j + 1 ≠ i := fun y hy hji => by
        have h2 := hu.2
        rw [hy] at h2
        obtain ⟨z, hz⟩ := h2
        rw [hji, hat] at hz
        cases hz
      have hlive : xm_live lo j u := by
        refine ⟨e1, ?_⟩
        have h2 := hu.2
        cases u with
        | long y =>
          obtain ⟨z, hz⟩ := h2
          rw [hne (j + 1) (hno y rfl) (by omega)] at hz
          exact ⟨z, hz⟩
        | _ => exact h2
      obtain ⟨w2, h1, h2⟩ := h.2.2.2 j u hlive
      refine ⟨w2, h1, h'.2.2 (j, w2) (List.mem_cons_of_mem _ (List.mem_filter.mpr ⟨xm_all_mem.mpr h2, ?_⟩))⟩
      simp only [Bool.and_eq_true, Bool.not_eq_true', beq_eq_false_iff_ne, ne_eq, Bool.and_eq_false_iff]
      refine ⟨hj, hj1, ?_⟩
      by_cases hji : j + 1 = i
      · right
        rw [xm_v_cat h1]
        intro hcat
        cases u with
        | long y => exact hno y rfl hji
        | double y => exact hu.2
        | _ => simp [Value.category] at hcat
      · left
        exact hji
end
section
/-! What a frame stands on; what a state of the small machine is in the real one. -/
def xm_tys (dA : FieldType → ClassId) : List (ClassId × FieldType) := [(dA .int, .int), (dA .long, .long), (dA (.array .int), .array .int), (dA (.object tb_rc), .object tb_rc)]
abbrev xm_A (B0 : Nat) : Nat → Prop := fun q => B0 ≤ q
/-- what every method's start says beside the cells -/
def xm_E (D : va_G) (dA : FieldType → ClassId) (b B0 L : Nat) (xs : Nat → Int32) (U : State) : Prop := va_K D vwCl (xm_tys dA) U ∧ va_X b L xs U U.heap ∧ b < B0 ∧ B0 ≤ U.heap.size ∧ (∀ w ∈ tb_nest, va_Nw w U) ∧ va_AO tb_rc U ∧ ∃ kA : Class, U.vm.classes[dA (.array .int)]? = some kA ∧ kA.kind = .array (dA .int) (.array .int)
theorem xm_isn_on {w : Cond} (hw : xm_isn w = true) : w.onTables = true := by
  cases w <;> first | rfl | cases hw
theorem xm_nw {w : Cond} {s U : State} (hw : xm_isn w = true) (hW : s.WarmedH U.vm) (h : va_Nw w s) : va_Nw w U := by
  cases w <;> first | exact va_Nw.warmF hW h | exact va_Nw.warmM hW h | cases hw
theorem xm_E_go {D : va_G} {dA : FieldType → ClassId} {b B0 L : Nat} {xs : Nat → Int32} {s U : State} {H : Heap} {locs : List Loc} (h : xm_E D dA b B0 L xs s) (hS : va_S (xm_A B0) s.heap H locs) (hU : U.heap = H) (hW : s.WarmedH U.vm) : xm_E D dA b B0 L xs U := by
  obtain ⟨h1, h2, h3, h4, h5, h6, kA, h7, h8⟩ := h
  have hb : b < s.heap.size := Nat.lt_of_lt_of_le h3 h4
  refine ⟨va_K.moved hW.alike h1, ?_, h3, ?_, fun w hw => xm_nw (List.mem_filter.mp hw).2 hW (h5 w hw), va_AO.moved hW.alike h6, ?_⟩
  · rw [hU]
    exact va_X.moved hW.alike (va_X.kept h2 (hS.2.1 b hb (fun q => absurd q (Nat.not_le_of_lt h3))))
  · rw [hU]
    exact Nat.le_trans h4 hS.1
  · obtain ⟨k', hk', he⟩ := hW.alike.2.2 _ _ h7
    exact ⟨k', hk', by rw [he]; exact h8⟩
def xm_F (p : Program) (R : Room) (s : State) (m : MethodId) (args : Array Value) (meth : Method) (c : Code) (M : xm_M) (d : Nat) (D : va_G) (dA : FieldType → ClassId) (b B0 L : Nat) (xs : Nat → Int32) : Prop :=
  CallFix p m c (xm_by M) (xm_ml M) s args tb_all (xm_y M).cls ∧ xm_E D dA b B0 L xs s ∧ (R.cells = xm_mc M ∧ R.slots = xm_ms M) ∧ (d + 1 ≤ R.frames ∧ 48 * d + 48 ≤ R.locals) ∧ meth.name = (xm_y M).name
def xm_I (s : State) (D : va_G) (dA : FieldType → ClassId) (ad : List Nat) (b B0 nL : Nat) (lo st : List Value) (h : xm_H) (ws : va_W) (H : Heap) (locs : List Loc) (ls : Array Slot) (rst : List Value) : Prop :=
  xm_R ad b dA h ws ∧ va_P D vwCl ws H ∧ va_D (xm_A B0) ws ∧ va_S (xm_A B0) s.heap H locs ∧ xm_l (xm_ad ws) b nL lo ls ∧ xm_st (xm_ad ws) b st rst
def xm_G (p : Program) (l : Launch) (e : Env) (R : Room) (s : State) (m : MethodId) (args : Array Value) (below : List Frame) (meth : Method) (c : Code) (Qw : State → Prop) (D : va_G) (dA : FieldType → ClassId) (ad : List Nat) (b B0 nL : Nat) (σ : xm_S) : Prop :=
  ∀ (ws : va_W) (H : Heap) (locs : List Loc) (ls : Array Slot) (rst : List Value), σ.2.2.2.2.1 ≤ R.cells → σ.2.2.2.2.2 ≤ R.slots → xm_I s D dA ad b B0 nL σ.2.1 σ.2.2.1 σ.2.2.2.1 ws H locs ls rst → W p l e R s m args below meth c H locs σ.2.2.2.2.1 σ.2.2.2.2.2 Qw (F0 m σ.1 ls rst)
def xm_ov (ad : List Nat) (b : Nat) (v w : Option Value) : Prop := match v with
  | none => w = none
  | some x => ∃ u, w = some u ∧ xm_v ad b x u
def xm_Qc (D : va_G) (dA : FieldType → ClassId) (b B0 : Nat) (ad : List Nat) (Q : xm_Q) : Array Value → State → Outcome → State → Prop := fun _ st o t =>
  (∃ (v w : Option Value) (h : xm_H) (ws : va_W), o = .returned w ∧ xm_ov (xm_ad ws) b v w ∧ Q v h ∧ xm_R ad b dA h ws ∧ va_P D vwCl ws t.heap ∧ va_D (xm_A B0) ws) ∧ va_F (xm_A B0) st t
abbrev xm_ws (M : xm_M) : List Cond := .code (xm_y M) (xm_by M) (xm_ml M) (xm_rt M) :: tb_all
abbrev xm_rm (d : Nat) (M : xm_M) : Room := { frames := d, cells := xm_mc M, slots := xm_ms M, locals := 48 * d }
def xm_Met (l : Launch) (d : Nat) (D : va_G) (dA : FieldType → ClassId) (b B0 L : Nat) (xs : Nat → Int32) (M : xm_M) (as : List Value) (h : xm_H) (Q : xm_Q) : Prop :=
  ∀ (ws : va_W) (ras : List Value), xm_R [] b dA h ws → va_D (xm_A B0) ws → xm_st (xm_ad ws) b as ras →
    Met l (xm_y M) (xm_ws M) (xm_rm d M) (va_Pc ras (fun U => xm_E D dA b B0 L xs U ∧ va_P D vwCl ws U.heap)) (xm_Qc D dA b B0 (xm_ad ws) Q) (xm_mc M) (xm_ms M) (xm_A B0)
theorem xm_E_blind {D : va_G} {dA : FieldType → ClassId} {b B0 L : Nat} {xs : Nat → Int32} {ws : va_W} {ras : List Value} : FrameBlind (va_Pc ras (fun U => xm_E D dA b B0 L xs U ∧ va_P D vwCl ws U.heap)) := by
  intro a U g mk q
  obtain ⟨q0, ⟨q1, q2, q3, q4, q5, q7, q8⟩, q6⟩ := q
  exact ⟨q0, ⟨va_K.moved (u := U) (U := U.calling g mk a) (Vm.Alike.refl U.vm) q1, va_X.moved (u := U) (U := U.calling g mk a) (Vm.Alike.refl U.vm) q2, q3, q4, fun w hw => va_Nw.same (u := U) (xm_isn_on (List.mem_filter.mp hw).2) rfl (q5 w hw), q7, q8⟩, q6⟩
theorem xm_st_get {ad : List Nat} {b : Nat} : ∀ {fs gs : List Value} {j : Nat} {v : Value}, xm_st ad b fs gs → fs[j]? = some v → ∃ u, gs[j]? = some u ∧ xm_v ad b v u
  | [], _, j, v, _, h => by simp at h
  | _ :: _, _, 0, v, ⟨w, r, h1, h2, _⟩, h => by rw [List.getElem?_cons_zero] at h; cases h; exact ⟨w, by rw [h1]; rfl, h2⟩
  | _ :: _, _, j + 1, v, ⟨w, r, h1, _, h3⟩, h => by
    rw [List.getElem?_cons_succ] at h
    obtain ⟨u, e1, e2⟩ := xm_st_get h3 h
    exact ⟨u, by rw [h1, List.getElem?_cons_succ]; exact e1, e2⟩
theorem xm_st_set {ad : List Nat} {b : Nat} : ∀ {fs gs : List Value} {j : Nat} {v u : Value}, xm_st ad b fs gs → xm_v ad b v u → xm_st ad b (fs.set j v) (gs.set j u)
  | [], gs, j, v, u, h, _ => by rw [show gs = [] from h]; exact rfl
  | _ :: _, _, 0, v, u, ⟨w, r, h1, h2, h3⟩, hv => by rw [h1]; exact ⟨u, r, rfl, hv, h3⟩
  | _ :: _, _, j + 1, v, u, ⟨w, r, h1, h2, h3⟩, hv => by rw [h1]; exact ⟨w, r.set j u, rfl, h2, xm_st_set h3 hv⟩
theorem xm_v_narrow {ad : List Nat} {b : Nat} {v u : Value} {ty : FieldType} (h : xm_v ad b v u) (hn : narrow ty v = v) : narrow ty u = u := by
  cases v with
  | int x => rw [show u = .int x from h]; exact hn
  | long x => rw [show u = .long x from h]; exact hn
  | null => rw [show u = .null from h]; exact hn
  | ref k => obtain ⟨a, -, h2⟩ := h; rw [h2]; cases ty <;> rfl
  | retAddr k => rw [show u = .ref b from h]; cases ty <;> rfl
  | float x => exact h.elim
  | double x => exact h.elim
theorem xm_v_fits {ad : List Nat} {b : Nat} {v u : Value} {ty : FieldType} (h : xm_v ad b v u) (hn : fits ty v = true) : fits ty u = true := by
  cases v with
  | int x => rw [show u = .int x from h]; exact hn
  | long x => rw [show u = .long x from h]; exact hn
  | null => rw [show u = .null from h]; exact hn
  | ref k => obtain ⟨a, -, h2⟩ := h; rw [h2]; cases ty <;> first | exact hn | (simp [fits] at hn)
  | retAddr k => cases ty <;> simp [fits] at hn
  | float x => exact h.elim
  | double x => exact h.elim
theorem xm_st_plain {ad : List Nat} {b : Nat} : ∀ {fs : List Value}, fs.all xm_plain = true → xm_st ad b fs fs
  | [], _ => rfl
  | v :: vs, h => by
    rw [List.all_cons, Bool.and_eq_true] at h
    refine ⟨v, vs, rfl, ?_, xm_st_plain h.2⟩
    cases v <;> first | exact rfl | exact absurd h.1 (by decide) | exact absurd h.1 (by simp [xm_plain])
theorem xm_ad_push (ws : va_W) (q : Nat) (e : va_E) : xm_ad (ws ++ [(q, e)]) = xm_ad ws ++ [q] := by simp [xm_ad]
theorem xm_ad_new (ws : va_W) (q : Nat) : (xm_ad ws ++ [q])[ws.length]? = some q := by
  rw [List.getElem?_append_right (by simp [xm_ad])]
  simp [xm_ad]
section XR
variable {p : Program} {l : Launch} {e : Env} {R : Room} {s : State} {m : MethodId} {args : Array Value} {below : List Frame} {meth : Method} {c : Code} {H : Heap} {locs : List Loc} {cells slots : Nat} {Qw : State → Prop}
variable {pc : Nat} {ls : Array Slot} {rest st0 : List Value} {a : Array Value} {mc ms : Nat} {D : va_G} {dA : FieldType → ClassId} {b B0 : Nat} {ad : List Nat} {Q : xm_Q}
/-- behind a call -/
theorem xs_run (hr : va_Run p l e R s m args below meth c H locs cells slots mc ms (F0 m pc ls st0) rest (xm_Qc D dA b B0 ad Q a) (xm_A B0)) (hS : va_S (xm_A B0) s.heap H locs)
    (kk : ∀ (v w : Option Value) (h : xm_H) (ws : va_W) (H1 : Heap) (locs1 : List Loc), xm_ov (xm_ad ws) b v w → Q v h → xm_R ad b dA h ws → va_P D vwCl ws H1 → va_D (xm_A B0) ws → va_S (xm_A B0) s.heap H1 locs1 → W p l e R s m args below meth c H1 locs1 (cells + mc) (slots + ms) Qw (F0 m (pc + 3) ls (w.toList ++ rest))) : W p l e R s m args below meth c H locs cells slots Qw (F0 m pc ls st0) := by
  intro T hT X
  obtain ⟨v0, st₀, t, T', Lc, h0, X', hL, e1, e2, ⟨⟨v, w, h, ws, hv, hov, hq, hR, hP, hD⟩, hz, hk⟩, st⟩ := hr T hT X
  cases hv
  rw [h0] at hz hk
  obtain ⟨t2, a1, b1⟩ := kk v v0 h ws T'.heap (locs ++ Lc) hov hq hR (by rw [e1]; exact hP) hD
    ⟨Nat.le_trans hS.1 (by rw [e1]; exact hz), fun q h1 h2 => by rw [e1, hk q (Nat.lt_of_lt_of_le h1 hS.1) h2]; exact hS.2.1 q h1 h2, fun q hq => by
      rcases List.mem_append.mp hq with h | h
      · exact hS.2.2 q h
      · exact hL q h⟩ T' rfl X'
  exact ⟨t2, st t2 a1, b1⟩
end XR
end
section
/-! What the small machine does, the real one does: a row an instruction. (Printed by gen_sound.py.) -/
section XS
variable {p : Program} {l : Launch} {e : Env} {R : Room} {s : State} {m : MethodId} {args : Array Value} {below : List Frame} {meth : Method} {c : Code} {Qw : State → Prop} {M : xm_M} {d : Nat} {D : va_G} {dA : FieldType → ClassId} {ad : List Nat} {b B0 L : Nat} {xs : Nat → Int32}
variable {len pc : Nat} {lo st : List Value} {h : xm_H} {cn sn : Nat}
theorem xs_iadd  (F : xm_F p R s m args meth c M d D dA b B0 L xs) (hd : decode (xm_by M) pc = .ok (.iadd, len)) (ho : len = 1 ∧ ∃ (x : Int32) (y : Int32) (r : List Value), st = .int y :: .int x :: r ∧ xm_G p l e R s m args below meth c Qw D dA ad b B0 (xm_ml M) (pc + 1, lo, .int (x + y) :: r, h, cn, sn)) : xm_G p l e R s m args below meth c Qw D dA ad b B0 (xm_ml M) (pc, lo, st, h, cn, sn) := by
  obtain ⟨rfl, x, y, r, rfl, hk⟩ := ho
  intro ws H locs ls rst hc hs hI
  obtain ⟨iR, iP, iD, iS, iL, w1, r1, rfl, e1, w2, r2, rfl, e2, iT⟩ := hI
  have e1 : w1 = .int y := e1
  have e2 : w2 = .int x := e2
  subst e1; subst e2
  exact lv_iadd F.1.1 F.1.2.1 hd (hk ws H locs ls _ hc hs ⟨iR, iP, iD, iS, iL, _, _, rfl, rfl, iT⟩)
theorem xs_isub  (F : xm_F p R s m args meth c M d D dA b B0 L xs) (hd : decode (xm_by M) pc = .ok (.isub, len)) (ho : len = 1 ∧ ∃ (x : Int32) (y : Int32) (r : List Value), st = .int y :: .int x :: r ∧ xm_G p l e R s m args below meth c Qw D dA ad b B0 (xm_ml M) (pc + 1, lo, .int (x - y) :: r, h, cn, sn)) : xm_G p l e R s m args below meth c Qw D dA ad b B0 (xm_ml M) (pc, lo, st, h, cn, sn) := by
  obtain ⟨rfl, x, y, r, rfl, hk⟩ := ho
  intro ws H locs ls rst hc hs hI
  obtain ⟨iR, iP, iD, iS, iL, w1, r1, rfl, e1, w2, r2, rfl, e2, iT⟩ := hI
  have e1 : w1 = .int y := e1
  have e2 : w2 = .int x := e2
  subst e1; subst e2
  exact lv_isub F.1.1 F.1.2.1 hd (hk ws H locs ls _ hc hs ⟨iR, iP, iD, iS, iL, _, _, rfl, rfl, iT⟩)
theorem xs_imul  (F : xm_F p R s m args meth c M d D dA b B0 L xs) (hd : decode (xm_by M) pc = .ok (.imul, len)) (ho : len = 1 ∧ ∃ (x : Int32) (y : Int32) (r : List Value), st = .int y :: .int x :: r ∧ xm_G p l e R s m args below meth c Qw D dA ad b B0 (xm_ml M) (pc + 1, lo, .int (x * y) :: r, h, cn, sn)) : xm_G p l e R s m args below meth c Qw D dA ad b B0 (xm_ml M) (pc, lo, st, h, cn, sn) := by
  obtain ⟨rfl, x, y, r, rfl, hk⟩ := ho
  intro ws H locs ls rst hc hs hI
  obtain ⟨iR, iP, iD, iS, iL, w1, r1, rfl, e1, w2, r2, rfl, e2, iT⟩ := hI
  have e1 : w1 = .int y := e1
  have e2 : w2 = .int x := e2
  subst e1; subst e2
  exact lv_imul F.1.1 F.1.2.1 hd (hk ws H locs ls _ hc hs ⟨iR, iP, iD, iS, iL, _, _, rfl, rfl, iT⟩)
theorem xs_iand  (F : xm_F p R s m args meth c M d D dA b B0 L xs) (hd : decode (xm_by M) pc = .ok (.iand, len)) (ho : len = 1 ∧ ∃ (x : Int32) (y : Int32) (r : List Value), st = .int y :: .int x :: r ∧ xm_G p l e R s m args below meth c Qw D dA ad b B0 (xm_ml M) (pc + 1, lo, .int (x &&& y) :: r, h, cn, sn)) : xm_G p l e R s m args below meth c Qw D dA ad b B0 (xm_ml M) (pc, lo, st, h, cn, sn) := by
  obtain ⟨rfl, x, y, r, rfl, hk⟩ := ho
  intro ws H locs ls rst hc hs hI
  obtain ⟨iR, iP, iD, iS, iL, w1, r1, rfl, e1, w2, r2, rfl, e2, iT⟩ := hI
  have e1 : w1 = .int y := e1
  have e2 : w2 = .int x := e2
  subst e1; subst e2
  exact lv_iand F.1.1 F.1.2.1 hd (hk ws H locs ls _ hc hs ⟨iR, iP, iD, iS, iL, _, _, rfl, rfl, iT⟩)
theorem xs_ladd  (F : xm_F p R s m args meth c M d D dA b B0 L xs) (hd : decode (xm_by M) pc = .ok (.ladd, len)) (ho : len = 1 ∧ ∃ (x : Int64) (y : Int64) (r : List Value), st = .long y :: .long x :: r ∧ xm_G p l e R s m args below meth c Qw D dA ad b B0 (xm_ml M) (pc + 1, lo, .long (x + y) :: r, h, cn, sn)) : xm_G p l e R s m args below meth c Qw D dA ad b B0 (xm_ml M) (pc, lo, st, h, cn, sn) := by
  obtain ⟨rfl, x, y, r, rfl, hk⟩ := ho
  intro ws H locs ls rst hc hs hI
  obtain ⟨iR, iP, iD, iS, iL, w1, r1, rfl, e1, w2, r2, rfl, e2, iT⟩ := hI
  have e1 : w1 = .long y := e1
  have e2 : w2 = .long x := e2
  subst e1; subst e2
  exact lv_ladd F.1.1 F.1.2.1 hd (hk ws H locs ls _ hc hs ⟨iR, iP, iD, iS, iL, _, _, rfl, rfl, iT⟩)
theorem xs_lsub  (F : xm_F p R s m args meth c M d D dA b B0 L xs) (hd : decode (xm_by M) pc = .ok (.lsub, len)) (ho : len = 1 ∧ ∃ (x : Int64) (y : Int64) (r : List Value), st = .long y :: .long x :: r ∧ xm_G p l e R s m args below meth c Qw D dA ad b B0 (xm_ml M) (pc + 1, lo, .long (x - y) :: r, h, cn, sn)) : xm_G p l e R s m args below meth c Qw D dA ad b B0 (xm_ml M) (pc, lo, st, h, cn, sn) := by
  obtain ⟨rfl, x, y, r, rfl, hk⟩ := ho
  intro ws H locs ls rst hc hs hI
  obtain ⟨iR, iP, iD, iS, iL, w1, r1, rfl, e1, w2, r2, rfl, e2, iT⟩ := hI
  have e1 : w1 = .long y := e1
  have e2 : w2 = .long x := e2
  subst e1; subst e2
  exact lv_lsub F.1.1 F.1.2.1 hd (hk ws H locs ls _ hc hs ⟨iR, iP, iD, iS, iL, _, _, rfl, rfl, iT⟩)
theorem xs_land  (F : xm_F p R s m args meth c M d D dA b B0 L xs) (hd : decode (xm_by M) pc = .ok (.land, len)) (ho : len = 1 ∧ ∃ (x : Int64) (y : Int64) (r : List Value), st = .long y :: .long x :: r ∧ xm_G p l e R s m args below meth c Qw D dA ad b B0 (xm_ml M) (pc + 1, lo, .long (x &&& y) :: r, h, cn, sn)) : xm_G p l e R s m args below meth c Qw D dA ad b B0 (xm_ml M) (pc, lo, st, h, cn, sn) := by
  obtain ⟨rfl, x, y, r, rfl, hk⟩ := ho
  intro ws H locs ls rst hc hs hI
  obtain ⟨iR, iP, iD, iS, iL, w1, r1, rfl, e1, w2, r2, rfl, e2, iT⟩ := hI
  have e1 : w1 = .long y := e1
  have e2 : w2 = .long x := e2
  subst e1; subst e2
  exact lv_land F.1.1 F.1.2.1 hd (hk ws H locs ls _ hc hs ⟨iR, iP, iD, iS, iL, _, _, rfl, rfl, iT⟩)
theorem xs_lor  (F : xm_F p R s m args meth c M d D dA b B0 L xs) (hd : decode (xm_by M) pc = .ok (.lor, len)) (ho : len = 1 ∧ ∃ (x : Int64) (y : Int64) (r : List Value), st = .long y :: .long x :: r ∧ xm_G p l e R s m args below meth c Qw D dA ad b B0 (xm_ml M) (pc + 1, lo, .long (x ||| y) :: r, h, cn, sn)) : xm_G p l e R s m args below meth c Qw D dA ad b B0 (xm_ml M) (pc, lo, st, h, cn, sn) := by
  obtain ⟨rfl, x, y, r, rfl, hk⟩ := ho
  intro ws H locs ls rst hc hs hI
  obtain ⟨iR, iP, iD, iS, iL, w1, r1, rfl, e1, w2, r2, rfl, e2, iT⟩ := hI
  have e1 : w1 = .long y := e1
  have e2 : w2 = .long x := e2
  subst e1; subst e2
  exact lv_lor F.1.1 F.1.2.1 hd (hk ws H locs ls _ hc hs ⟨iR, iP, iD, iS, iL, _, _, rfl, rfl, iT⟩)
theorem xs_lxor  (F : xm_F p R s m args meth c M d D dA b B0 L xs) (hd : decode (xm_by M) pc = .ok (.lxor, len)) (ho : len = 1 ∧ ∃ (x : Int64) (y : Int64) (r : List Value), st = .long y :: .long x :: r ∧ xm_G p l e R s m args below meth c Qw D dA ad b B0 (xm_ml M) (pc + 1, lo, .long (x ^^^ y) :: r, h, cn, sn)) : xm_G p l e R s m args below meth c Qw D dA ad b B0 (xm_ml M) (pc, lo, st, h, cn, sn) := by
  obtain ⟨rfl, x, y, r, rfl, hk⟩ := ho
  intro ws H locs ls rst hc hs hI
  obtain ⟨iR, iP, iD, iS, iL, w1, r1, rfl, e1, w2, r2, rfl, e2, iT⟩ := hI
  have e1 : w1 = .long y := e1
  have e2 : w2 = .long x := e2
  subst e1; subst e2
  exact lv_lxor F.1.1 F.1.2.1 hd (hk ws H locs ls _ hc hs ⟨iR, iP, iD, iS, iL, _, _, rfl, rfl, iT⟩)
theorem xs_lshl  (F : xm_F p R s m args meth c M d D dA b B0 L xs) (hd : decode (xm_by M) pc = .ok (.lshl, len)) (ho : len = 1 ∧ ∃ (x : Int64) (y : Int32) (r : List Value), st = .int y :: .long x :: r ∧ xm_G p l e R s m args below meth c Qw D dA ad b B0 (xm_ml M) (pc + 1, lo, .long (x <<< (y.toInt64 &&& 63)) :: r, h, cn, sn)) : xm_G p l e R s m args below meth c Qw D dA ad b B0 (xm_ml M) (pc, lo, st, h, cn, sn) := by
  obtain ⟨rfl, x, y, r, rfl, hk⟩ := ho
  intro ws H locs ls rst hc hs hI
  obtain ⟨iR, iP, iD, iS, iL, w1, r1, rfl, e1, w2, r2, rfl, e2, iT⟩ := hI
  have e1 : w1 = .int y := e1
  have e2 : w2 = .long x := e2
  subst e1; subst e2
  exact lv_lshl F.1.1 F.1.2.1 hd rfl (hk ws H locs ls _ hc hs ⟨iR, iP, iD, iS, iL, _, _, rfl, rfl, iT⟩)
theorem xs_lshr  (F : xm_F p R s m args meth c M d D dA b B0 L xs) (hd : decode (xm_by M) pc = .ok (.lshr, len)) (ho : len = 1 ∧ ∃ (x : Int64) (y : Int32) (r : List Value), st = .int y :: .long x :: r ∧ xm_G p l e R s m args below meth c Qw D dA ad b B0 (xm_ml M) (pc + 1, lo, .long (x >>> (y.toInt64 &&& 63)) :: r, h, cn, sn)) : xm_G p l e R s m args below meth c Qw D dA ad b B0 (xm_ml M) (pc, lo, st, h, cn, sn) := by
  obtain ⟨rfl, x, y, r, rfl, hk⟩ := ho
  intro ws H locs ls rst hc hs hI
  obtain ⟨iR, iP, iD, iS, iL, w1, r1, rfl, e1, w2, r2, rfl, e2, iT⟩ := hI
  have e1 : w1 = .int y := e1
  have e2 : w2 = .long x := e2
  subst e1; subst e2
  exact lv_lshr F.1.1 F.1.2.1 hd rfl (hk ws H locs ls _ hc hs ⟨iR, iP, iD, iS, iL, _, _, rfl, rfl, iT⟩)
theorem xs_lushr  (F : xm_F p R s m args meth c M d D dA b B0 L xs) (hd : decode (xm_by M) pc = .ok (.lushr, len)) (ho : len = 1 ∧ ∃ (x : Int64) (y : Int32) (r : List Value), st = .int y :: .long x :: r ∧ xm_G p l e R s m args below meth c Qw D dA ad b B0 (xm_ml M) (pc + 1, lo, .long (x.toUInt64 >>> (y.toInt64.toUInt64 &&& Int64.toUInt64 63)).toInt64 :: r, h, cn, sn)) : xm_G p l e R s m args below meth c Qw D dA ad b B0 (xm_ml M) (pc, lo, st, h, cn, sn) := by
  obtain ⟨rfl, x, y, r, rfl, hk⟩ := ho
  intro ws H locs ls rst hc hs hI
  obtain ⟨iR, iP, iD, iS, iL, w1, r1, rfl, e1, w2, r2, rfl, e2, iT⟩ := hI
  have e1 : w1 = .int y := e1
  have e2 : w2 = .long x := e2
  subst e1; subst e2
  exact lv_lushr F.1.1 F.1.2.1 hd rfl (hk ws H locs ls _ hc hs ⟨iR, iP, iD, iS, iL, _, _, rfl, rfl, iT⟩)
theorem xs_lcmp  (F : xm_F p R s m args meth c M d D dA b B0 L xs) (hd : decode (xm_by M) pc = .ok (.lcmp, len)) (ho : len = 1 ∧ ∃ (x : Int64) (y : Int64) (r : List Value), st = .long y :: .long x :: r ∧ xm_G p l e R s m args below meth c Qw D dA ad b B0 (xm_ml M) (pc + 1, lo, .int (lg_cmp x y) :: r, h, cn, sn)) : xm_G p l e R s m args below meth c Qw D dA ad b B0 (xm_ml M) (pc, lo, st, h, cn, sn) := by
  obtain ⟨rfl, x, y, r, rfl, hk⟩ := ho
  intro ws H locs ls rst hc hs hI
  obtain ⟨iR, iP, iD, iS, iL, w1, r1, rfl, e1, w2, r2, rfl, e2, iT⟩ := hI
  have e1 : w1 = .long y := e1
  have e2 : w2 = .long x := e2
  subst e1; subst e2
  exact W.lcmp F.1.1 F.1.2.1 hd (hk ws H locs ls _ hc hs ⟨iR, iP, iD, iS, iL, _, _, rfl, rfl, iT⟩)
theorem xs_i2l  (F : xm_F p R s m args meth c M d D dA b B0 L xs) (hd : decode (xm_by M) pc = .ok (.i2l, len)) (ho : len = 1 ∧ ∃ (x : Int32) (r : List Value), st = .int x :: r ∧ xm_G p l e R s m args below meth c Qw D dA ad b B0 (xm_ml M) (pc + 1, lo, .long x.toInt64 :: r, h, cn, sn)) : xm_G p l e R s m args below meth c Qw D dA ad b B0 (xm_ml M) (pc, lo, st, h, cn, sn) := by
  obtain ⟨rfl, x, r, rfl, hk⟩ := ho
  intro ws H locs ls rst hc hs hI
  obtain ⟨iR, iP, iD, iS, iL, w1, r1, rfl, e1, iT⟩ := hI
  have e1 : w1 = .int x := e1
  subst e1
  exact lv_i2l F.1.1 F.1.2.1 hd rfl (hk ws H locs ls _ hc hs ⟨iR, iP, iD, iS, iL, _, _, rfl, rfl, iT⟩)
theorem xs_l2i  (F : xm_F p R s m args meth c M d D dA b B0 L xs) (hd : decode (xm_by M) pc = .ok (.l2i, len)) (ho : len = 1 ∧ ∃ (x : Int64) (r : List Value), st = .long x :: r ∧ xm_G p l e R s m args below meth c Qw D dA ad b B0 (xm_ml M) (pc + 1, lo, .int x.toInt32 :: r, h, cn, sn)) : xm_G p l e R s m args below meth c Qw D dA ad b B0 (xm_ml M) (pc, lo, st, h, cn, sn) := by
  obtain ⟨rfl, x, r, rfl, hk⟩ := ho
  intro ws H locs ls rst hc hs hI
  obtain ⟨iR, iP, iD, iS, iL, w1, r1, rfl, e1, iT⟩ := hI
  have e1 : w1 = .long x := e1
  subst e1
  exact lv_l2i F.1.1 F.1.2.1 hd rfl (hk ws H locs ls _ hc hs ⟨iR, iP, iD, iS, iL, _, _, rfl, rfl, iT⟩)
theorem xs_ifeq {off : Int} (F : xm_F p R s m args meth c M d D dA b B0 L xs) (hd : decode (xm_by M) pc = .ok (.ifCond .eq off, len)) (ho : len = 3 ∧ ∃ (t : Nat) (x : Int32) (r : List Value), (pc : Int) + off = (t : Int) ∧ st = .int x :: r ∧ (x = 0 → xm_G p l e R s m args below meth c Qw D dA ad b B0 (xm_ml M) (t, lo, r, h, cn, sn)) ∧ (¬ x = 0 → xm_G p l e R s m args below meth c Qw D dA ad b B0 (xm_ml M) (pc + 3, lo, r, h, cn, sn))) : xm_G p l e R s m args below meth c Qw D dA ad b B0 (xm_ml M) (pc, lo, st, h, cn, sn) := by
  obtain ⟨rfl, t, x, r, ht, rfl, hk, hk2⟩ := ho
  intro ws H locs ls rst hc hs hI
  obtain ⟨iR, iP, iD, iS, iL, w1, r1, rfl, e1, iT⟩ := hI
  have e1 : w1 = .int x := e1
  subst e1
  exact lv_if_eq F.1.1 F.1.2.1 hd ht (fun q => hk q ws H locs ls _ hc hs ⟨iR, iP, iD, iS, iL, iT⟩) (fun q => hk2 q ws H locs ls _ hc hs ⟨iR, iP, iD, iS, iL, iT⟩)
theorem xs_ifne {off : Int} (F : xm_F p R s m args meth c M d D dA b B0 L xs) (hd : decode (xm_by M) pc = .ok (.ifCond .ne off, len)) (ho : len = 3 ∧ ∃ (t : Nat) (x : Int32) (r : List Value), (pc : Int) + off = (t : Int) ∧ st = .int x :: r ∧ (¬ x = 0 → xm_G p l e R s m args below meth c Qw D dA ad b B0 (xm_ml M) (t, lo, r, h, cn, sn)) ∧ (x = 0 → xm_G p l e R s m args below meth c Qw D dA ad b B0 (xm_ml M) (pc + 3, lo, r, h, cn, sn))) : xm_G p l e R s m args below meth c Qw D dA ad b B0 (xm_ml M) (pc, lo, st, h, cn, sn) := by
  obtain ⟨rfl, t, x, r, ht, rfl, hk, hk2⟩ := ho
  intro ws H locs ls rst hc hs hI
  obtain ⟨iR, iP, iD, iS, iL, w1, r1, rfl, e1, iT⟩ := hI
  have e1 : w1 = .int x := e1
  subst e1
  exact lv_if_ne F.1.1 F.1.2.1 hd ht (fun q => hk q ws H locs ls _ hc hs ⟨iR, iP, iD, iS, iL, iT⟩) (fun q => hk2 q ws H locs ls _ hc hs ⟨iR, iP, iD, iS, iL, iT⟩)
theorem xs_iflt {off : Int} (F : xm_F p R s m args meth c M d D dA b B0 L xs) (hd : decode (xm_by M) pc = .ok (.ifCond .lt off, len)) (ho : len = 3 ∧ ∃ (t : Nat) (x : Int32) (r : List Value), (pc : Int) + off = (t : Int) ∧ st = .int x :: r ∧ (x < 0 → xm_G p l e R s m args below meth c Qw D dA ad b B0 (xm_ml M) (t, lo, r, h, cn, sn)) ∧ (¬ x < 0 → xm_G p l e R s m args below meth c Qw D dA ad b B0 (xm_ml M) (pc + 3, lo, r, h, cn, sn))) : xm_G p l e R s m args below meth c Qw D dA ad b B0 (xm_ml M) (pc, lo, st, h, cn, sn) := by
  obtain ⟨rfl, t, x, r, ht, rfl, hk, hk2⟩ := ho
  intro ws H locs ls rst hc hs hI
  obtain ⟨iR, iP, iD, iS, iL, w1, r1, rfl, e1, iT⟩ := hI
  have e1 : w1 = .int x := e1
  subst e1
  exact lv_if_lt F.1.1 F.1.2.1 hd ht (fun q => hk q ws H locs ls _ hc hs ⟨iR, iP, iD, iS, iL, iT⟩) (fun q => hk2 q ws H locs ls _ hc hs ⟨iR, iP, iD, iS, iL, iT⟩)
theorem xs_ifge {off : Int} (F : xm_F p R s m args meth c M d D dA b B0 L xs) (hd : decode (xm_by M) pc = .ok (.ifCond .ge off, len)) (ho : len = 3 ∧ ∃ (t : Nat) (x : Int32) (r : List Value), (pc : Int) + off = (t : Int) ∧ st = .int x :: r ∧ (0 ≤ x → xm_G p l e R s m args below meth c Qw D dA ad b B0 (xm_ml M) (t, lo, r, h, cn, sn)) ∧ (¬ 0 ≤ x → xm_G p l e R s m args below meth c Qw D dA ad b B0 (xm_ml M) (pc + 3, lo, r, h, cn, sn))) : xm_G p l e R s m args below meth c Qw D dA ad b B0 (xm_ml M) (pc, lo, st, h, cn, sn) := by
  obtain ⟨rfl, t, x, r, ht, rfl, hk, hk2⟩ := ho
  intro ws H locs ls rst hc hs hI
  obtain ⟨iR, iP, iD, iS, iL, w1, r1, rfl, e1, iT⟩ := hI
  have e1 : w1 = .int x := e1
  subst e1
  exact lv_if_ge F.1.1 F.1.2.1 hd ht (fun q => hk q ws H locs ls _ hc hs ⟨iR, iP, iD, iS, iL, iT⟩) (fun q => hk2 q ws H locs ls _ hc hs ⟨iR, iP, iD, iS, iL, iT⟩)
theorem xs_ifgt {off : Int} (F : xm_F p R s m args meth c M d D dA b B0 L xs) (hd : decode (xm_by M) pc = .ok (.ifCond .gt off, len)) (ho : len = 3 ∧ ∃ (t : Nat) (x : Int32) (r : List Value), (pc : Int) + off = (t : Int) ∧ st = .int x :: r ∧ (0 < x → xm_G p l e R s m args below meth c Qw D dA ad b B0 (xm_ml M) (t, lo, r, h, cn, sn)) ∧ (¬ 0 < x → xm_G p l e R s m args below meth c Qw D dA ad b B0 (xm_ml M) (pc + 3, lo, r, h, cn, sn))) : xm_G p l e R s m args below meth c Qw D dA ad b B0 (xm_ml M) (pc, lo, st, h, cn, sn) := by
  obtain ⟨rfl, t, x, r, ht, rfl, hk, hk2⟩ := ho
  intro ws H locs ls rst hc hs hI
  obtain ⟨iR, iP, iD, iS, iL, w1, r1, rfl, e1, iT⟩ := hI
  have e1 : w1 = .int x := e1
  subst e1
  exact lv_if_gt F.1.1 F.1.2.1 hd ht (fun q => hk q ws H locs ls _ hc hs ⟨iR, iP, iD, iS, iL, iT⟩) (fun q => hk2 q ws H locs ls _ hc hs ⟨iR, iP, iD, iS, iL, iT⟩)
theorem xs_ifle {off : Int} (F : xm_F p R s m args meth c M d D dA b B0 L xs) (hd : decode (xm_by M) pc = .ok (.ifCond .le off, len)) (ho : len = 3 ∧ ∃ (t : Nat) (x : Int32) (r : List Value), (pc : Int) + off = (t : Int) ∧ st = .int x :: r ∧ (x ≤ 0 → xm_G p l e R s m args below meth c Qw D dA ad b B0 (xm_ml M) (t, lo, r, h, cn, sn)) ∧ (¬ x ≤ 0 → xm_G p l e R s m args below meth c Qw D dA ad b B0 (xm_ml M) (pc + 3, lo, r, h, cn, sn))) : xm_G p l e R s m args below meth c Qw D dA ad b B0 (xm_ml M) (pc, lo, st, h, cn, sn) := by
  obtain ⟨rfl, t, x, r, ht, rfl, hk, hk2⟩ := ho
  intro ws H locs ls rst hc hs hI
  obtain ⟨iR, iP, iD, iS, iL, w1, r1, rfl, e1, iT⟩ := hI
  have e1 : w1 = .int x := e1
  subst e1
  exact lv_if_le F.1.1 F.1.2.1 hd ht (fun q => hk q ws H locs ls _ hc hs ⟨iR, iP, iD, iS, iL, iT⟩) (fun q => hk2 q ws H locs ls _ hc hs ⟨iR, iP, iD, iS, iL, iT⟩)
theorem xs_icmpeq {off : Int} (F : xm_F p R s m args meth c M d D dA b B0 L xs) (hd : decode (xm_by M) pc = .ok (.if_icmp .eq off, len)) (ho : len = 3 ∧ ∃ (t : Nat) (x y : Int32) (r : List Value), (pc : Int) + off = (t : Int) ∧ st = .int y :: .int x :: r ∧ (x = y → xm_G p l e R s m args below meth c Qw D dA ad b B0 (xm_ml M) (t, lo, r, h, cn, sn)) ∧ (¬ x = y → xm_G p l e R s m args below meth c Qw D dA ad b B0 (xm_ml M) (pc + 3, lo, r, h, cn, sn))) : xm_G p l e R s m args below meth c Qw D dA ad b B0 (xm_ml M) (pc, lo, st, h, cn, sn) := by
  obtain ⟨rfl, t, x, y, r, ht, rfl, hk, hk2⟩ := ho
  intro ws H locs ls rst hc hs hI
  obtain ⟨iR, iP, iD, iS, iL, w1, r1, rfl, e1, w2, r2, rfl, e2, iT⟩ := hI
  have e1 : w1 = .int y := e1
  have e2 : w2 = .int x := e2
  subst e1; subst e2
  exact lv_icmp_eq F.1.1 F.1.2.1 hd ht (fun q => hk q ws H locs ls _ hc hs ⟨iR, iP, iD, iS, iL, iT⟩) (fun q => hk2 q ws H locs ls _ hc hs ⟨iR, iP, iD, iS, iL, iT⟩)
theorem xs_icmpne {off : Int} (F : xm_F p R s m args meth c M d D dA b B0 L xs) (hd : decode (xm_by M) pc = .ok (.if_icmp .ne off, len)) (ho : len = 3 ∧ ∃ (t : Nat) (x y : Int32) (r : List Value), (pc : Int) + off = (t : Int) ∧ st = .int y :: .int x :: r ∧ (¬ x = y → xm_G p l e R s m args below meth c Qw D dA ad b B0 (xm_ml M) (t, lo, r, h, cn, sn)) ∧ (x = y → xm_G p l e R s m args below meth c Qw D dA ad b B0 (xm_ml M) (pc + 3, lo, r, h, cn, sn))) : xm_G p l e R s m args below meth c Qw D dA ad b B0 (xm_ml M) (pc, lo, st, h, cn, sn) := by
  obtain ⟨rfl, t, x, y, r, ht, rfl, hk, hk2⟩ := ho
  intro ws H locs ls rst hc hs hI
  obtain ⟨iR, iP, iD, iS, iL, w1, r1, rfl, e1, w2, r2, rfl, e2, iT⟩ := hI
  have e1 : w1 = .int y := e1
  have e2 : w2 = .int x := e2
  subst e1; subst e2
  exact lv_icmp_ne F.1.1 F.1.2.1 hd ht (fun q => hk q ws H locs ls _ hc hs ⟨iR, iP, iD, iS, iL, iT⟩) (fun q => hk2 q ws H locs ls _ hc hs ⟨iR, iP, iD, iS, iL, iT⟩)
theorem xs_icmplt {off : Int} (F : xm_F p R s m args meth c M d D dA b B0 L xs) (hd : decode (xm_by M) pc = .ok (.if_icmp .lt off, len)) (ho : len = 3 ∧ ∃ (t : Nat) (x y : Int32) (r : List Value), (pc : Int) + off = (t : Int) ∧ st = .int y :: .int x :: r ∧ (x < y → xm_G p l e R s m args below meth c Qw D dA ad b B0 (xm_ml M) (t, lo, r, h, cn, sn)) ∧ (¬ x < y → xm_G p l e R s m args below meth c Qw D dA ad b B0 (xm_ml M) (pc + 3, lo, r, h, cn, sn))) : xm_G p l e R s m args below meth c Qw D dA ad b B0 (xm_ml M) (pc, lo, st, h, cn, sn) := by
  obtain ⟨rfl, t, x, y, r, ht, rfl, hk, hk2⟩ := ho
  intro ws H locs ls rst hc hs hI
  obtain ⟨iR, iP, iD, iS, iL, w1, r1, rfl, e1, w2, r2, rfl, e2, iT⟩ := hI
  have e1 : w1 = .int y := e1
  have e2 : w2 = .int x := e2
  subst e1; subst e2
  exact lv_icmp_lt F.1.1 F.1.2.1 hd ht (fun q => hk q ws H locs ls _ hc hs ⟨iR, iP, iD, iS, iL, iT⟩) (fun q => hk2 q ws H locs ls _ hc hs ⟨iR, iP, iD, iS, iL, iT⟩)
theorem xs_icmpge {off : Int} (F : xm_F p R s m args meth c M d D dA b B0 L xs) (hd : decode (xm_by M) pc = .ok (.if_icmp .ge off, len)) (ho : len = 3 ∧ ∃ (t : Nat) (x y : Int32) (r : List Value), (pc : Int) + off = (t : Int) ∧ st = .int y :: .int x :: r ∧ (y ≤ x → xm_G p l e R s m args below meth c Qw D dA ad b B0 (xm_ml M) (t, lo, r, h, cn, sn)) ∧ (¬ y ≤ x → xm_G p l e R s m args below meth c Qw D dA ad b B0 (xm_ml M) (pc + 3, lo, r, h, cn, sn))) : xm_G p l e R s m args below meth c Qw D dA ad b B0 (xm_ml M) (pc, lo, st, h, cn, sn) := by
  obtain ⟨rfl, t, x, y, r, ht, rfl, hk, hk2⟩ := ho
  intro ws H locs ls rst hc hs hI
  obtain ⟨iR, iP, iD, iS, iL, w1, r1, rfl, e1, w2, r2, rfl, e2, iT⟩ := hI
  have e1 : w1 = .int y := e1
  have e2 : w2 = .int x := e2
  subst e1; subst e2
  exact lv_icmp_ge F.1.1 F.1.2.1 hd ht (fun q => hk q ws H locs ls _ hc hs ⟨iR, iP, iD, iS, iL, iT⟩) (fun q => hk2 q ws H locs ls _ hc hs ⟨iR, iP, iD, iS, iL, iT⟩)
theorem xs_icmpgt {off : Int} (F : xm_F p R s m args meth c M d D dA b B0 L xs) (hd : decode (xm_by M) pc = .ok (.if_icmp .gt off, len)) (ho : len = 3 ∧ ∃ (t : Nat) (x y : Int32) (r : List Value), (pc : Int) + off = (t : Int) ∧ st = .int y :: .int x :: r ∧ (y < x → xm_G p l e R s m args below meth c Qw D dA ad b B0 (xm_ml M) (t, lo, r, h, cn, sn)) ∧ (¬ y < x → xm_G p l e R s m args below meth c Qw D dA ad b B0 (xm_ml M) (pc + 3, lo, r, h, cn, sn))) : xm_G p l e R s m args below meth c Qw D dA ad b B0 (xm_ml M) (pc, lo, st, h, cn, sn) := by
  obtain ⟨rfl, t, x, y, r, ht, rfl, hk, hk2⟩ := ho
  intro ws H locs ls rst hc hs hI
  obtain ⟨iR, iP, iD, iS, iL, w1, r1, rfl, e1, w2, r2, rfl, e2, iT⟩ := hI
  have e1 : w1 = .int y := e1
  have e2 : w2 = .int x := e2
  subst e1; subst e2
  exact lv_icmp_gt F.1.1 F.1.2.1 hd ht (fun q => hk q ws H locs ls _ hc hs ⟨iR, iP, iD, iS, iL, iT⟩) (fun q => hk2 q ws H locs ls _ hc hs ⟨iR, iP, iD, iS, iL, iT⟩)
theorem xs_icmple {off : Int} (F : xm_F p R s m args meth c M d D dA b B0 L xs) (hd : decode (xm_by M) pc = .ok (.if_icmp .le off, len)) (ho : len = 3 ∧ ∃ (t : Nat) (x y : Int32) (r : List Value), (pc : Int) + off = (t : Int) ∧ st = .int y :: .int x :: r ∧ (x ≤ y → xm_G p l e R s m args below meth c Qw D dA ad b B0 (xm_ml M) (t, lo, r, h, cn, sn)) ∧ (¬ x ≤ y → xm_G p l e R s m args below meth c Qw D dA ad b B0 (xm_ml M) (pc + 3, lo, r, h, cn, sn))) : xm_G p l e R s m args below meth c Qw D dA ad b B0 (xm_ml M) (pc, lo, st, h, cn, sn) := by
  obtain ⟨rfl, t, x, y, r, ht, rfl, hk, hk2⟩ := ho
  intro ws H locs ls rst hc hs hI
  obtain ⟨iR, iP, iD, iS, iL, w1, r1, rfl, e1, w2, r2, rfl, e2, iT⟩ := hI
  have e1 : w1 = .int y := e1
  have e2 : w2 = .int x := e2
  subst e1; subst e2
  exact lv_icmp_le F.1.1 F.1.2.1 hd ht (fun q => hk q ws H locs ls _ hc hs ⟨iR, iP, iD, iS, iL, iT⟩) (fun q => hk2 q ws H locs ls _ hc hs ⟨iR, iP, iD, iS, iL, iT⟩)
theorem xs_goto {off : Int} (F : xm_F p R s m args meth c M d D dA b B0 L xs) (hd : decode (xm_by M) pc = .ok (.goto off, len)) (ho : len = 3 ∧ ∃ t : Nat, (pc : Int) + off = (t : Int) ∧ xm_G p l e R s m args below meth c Qw D dA ad b B0 (xm_ml M) (t, lo, st, h, cn, sn)) : xm_G p l e R s m args below meth c Qw D dA ad b B0 (xm_ml M) (pc, lo, st, h, cn, sn) := by
  obtain ⟨rfl, t, ht, hk⟩ := ho
  intro ws H locs ls rst hc hs hI
  exact lv_goto F.1.1 F.1.2.1 hd ht (hk ws H locs ls _ hc hs hI)
theorem xs_tableswitch {d0 l0 h0 : Int} {offs : Array Int} (F : xm_F p R s m args meth c M d D dA b B0 L xs) (hd : decode (xm_by M) pc = .ok (.tableswitch d0 l0 h0 offs, len)) (ho : ∃ (x : Int32) (r : List Value), st = .int x :: r ∧ ∃ tg : Nat, (((x.toInt < l0 ∨ h0 < x.toInt) ∧ (pc : Int) + d0 = (tg : Int)) ∨ (¬ x.toInt < l0 ∧ ¬ h0 < x.toInt ∧ ∃ off, offs[(x.toInt - l0).toNat]? = some off ∧ (pc : Int) + off = (tg : Int))) ∧ xm_G p l e R s m args below meth c Qw D dA ad b B0 (xm_ml M) (tg, lo, r, h, cn, sn)) : xm_G p l e R s m args below meth c Qw D dA ad b B0 (xm_ml M) (pc, lo, st, h, cn, sn) := by
  obtain ⟨x, r, rfl, tg, ht, hk⟩ := ho
  intro ws H locs ls rst hc hs hI
  obtain ⟨iR, iP, iD, iS, iL, w1, r1, rfl, e1, iT⟩ := hI
  have e1 : w1 = .int x := e1
  subst e1
  have hw := hk ws H locs ls _ hc hs ⟨iR, iP, iD, iS, iL, iT⟩
  rcases ht with ⟨h1, h2⟩ | ⟨h1, h2, off, h3, h4⟩
  · exact lv_tableOut F.1.1 F.1.2.1 hd h1 h2 hw
  · exact lv_tableIn F.1.1 F.1.2.1 hd h1 h2 h3 h4 hw
theorem xs_iconst {n : Int} (F : xm_F p R s m args meth c M d D dA b B0 L xs) (hd : decode (xm_by M) pc = .ok (.iconst n, len)) (ho : len = 1 ∧ xm_G p l e R s m args below meth c Qw D dA ad b B0 (xm_ml M) (pc + 1, lo, .int (Int32.ofInt n) :: st, h, cn, sn)) : xm_G p l e R s m args below meth c Qw D dA ad b B0 (xm_ml M) (pc, lo, st, h, cn, sn) := by
  obtain ⟨rfl, hk⟩ := ho
  intro ws H locs ls rst hc hs hI
  obtain ⟨iR, iP, iD, iS, iL, iT⟩ := hI
  exact lv_iconst F.1.1 F.1.2.1 hd rfl (hk ws H locs ls _ hc hs ⟨iR, iP, iD, iS, iL, _, _, rfl, rfl, iT⟩)
theorem xs_bipush {n : Int} (F : xm_F p R s m args meth c M d D dA b B0 L xs) (hd : decode (xm_by M) pc = .ok (.bipush n, len)) (ho : len = 2 ∧ xm_G p l e R s m args below meth c Qw D dA ad b B0 (xm_ml M) (pc + 2, lo, .int ((Int8.ofInt n).toInt32) :: st, h, cn, sn)) : xm_G p l e R s m args below meth c Qw D dA ad b B0 (xm_ml M) (pc, lo, st, h, cn, sn) := by
  obtain ⟨rfl, hk⟩ := ho
  intro ws H locs ls rst hc hs hI
  obtain ⟨iR, iP, iD, iS, iL, iT⟩ := hI
  exact lv_bipush F.1.1 F.1.2.1 hd rfl (hk ws H locs ls _ hc hs ⟨iR, iP, iD, iS, iL, _, _, rfl, rfl, iT⟩)
theorem xs_sipush {n : Int} (F : xm_F p R s m args meth c M d D dA b B0 L xs) (hd : decode (xm_by M) pc = .ok (.sipush n, len)) (ho : len = 3 ∧ xm_G p l e R s m args below meth c Qw D dA ad b B0 (xm_ml M) (pc + 3, lo, .int ((Int16.ofInt n).toInt32) :: st, h, cn, sn)) : xm_G p l e R s m args below meth c Qw D dA ad b B0 (xm_ml M) (pc, lo, st, h, cn, sn) := by
  obtain ⟨rfl, hk⟩ := ho
  intro ws H locs ls rst hc hs hI
  obtain ⟨iR, iP, iD, iS, iL, iT⟩ := hI
  exact lv_sipush F.1.1 F.1.2.1 hd rfl (hk ws H locs ls _ hc hs ⟨iR, iP, iD, iS, iL, _, _, rfl, rfl, iT⟩)
theorem xs_lconst {n : Fin 2} (F : xm_F p R s m args meth c M d D dA b B0 L xs) (hd : decode (xm_by M) pc = .ok (.lconst n, len)) (ho : len = 1 ∧ xm_G p l e R s m args below meth c Qw D dA ad b B0 (xm_ml M) (pc + 1, lo, .long (Int64.ofNat (n : Nat)) :: st, h, cn, sn)) : xm_G p l e R s m args below meth c Qw D dA ad b B0 (xm_ml M) (pc, lo, st, h, cn, sn) := by
  obtain ⟨rfl, hk⟩ := ho
  intro ws H locs ls rst hc hs hI
  obtain ⟨iR, iP, iD, iS, iL, iT⟩ := hI
  exact lv_lconst F.1.1 F.1.2.1 hd rfl (hk ws H locs ls _ hc hs ⟨iR, iP, iD, iS, iL, _, _, rfl, rfl, iT⟩)
theorem xs_ldc2_w {k : Nat} (F : xm_F p R s m args meth c M d D dA b B0 L xs) (hd : decode (xm_by M) pc = .ok (.ldc2_w k, len)) (ho : len = 3 ∧ ∃ x : Int64, Cond.constantLong (xm_y M).cls k x ∈ tb_all ∧ xm_G p l e R s m args below meth c Qw D dA ad b B0 (xm_ml M) (pc + 3, lo, .long x :: st, h, cn, sn)) : xm_G p l e R s m args below meth c Qw D dA ad b B0 (xm_ml M) (pc, lo, st, h, cn, sn) := by
  obtain ⟨rfl, x, hx, hk⟩ := ho
  intro ws H locs ls rst hc hs hI
  obtain ⟨iR, iP, iD, iS, iL, iT⟩ := hI
  exact lv_ldc2 F.1.1 F.1.2.1 F.1.2.2.2.1 (F.1.2.2.2.2 _ hx) hd (hk ws H locs ls _ hc hs ⟨iR, iP, iD, iS, iL, _, _, rfl, rfl, iT⟩)
theorem xs_iload_n {n : Fin 4} (F : xm_F p R s m args meth c M d D dA b B0 L xs) (hd : decode (xm_by M) pc = .ok (.iload_n n, len)) (ho : len = 1 ∧ ∃ x, lo[(n : Nat)]? = some (.int x) ∧ xm_G p l e R s m args below meth c Qw D dA ad b B0 (xm_ml M) (pc + 1, lo, .int x :: st, h, cn, sn)) : xm_G p l e R s m args below meth c Qw D dA ad b B0 (xm_ml M) (pc, lo, st, h, cn, sn) := by
  obtain ⟨rfl, x, hx, hk⟩ := ho
  intro ws H locs ls rst hc hs hI
  obtain ⟨iR, iP, iD, iS, iL, iT⟩ := hI
  obtain ⟨w, e1, e2⟩ := iL.2.2.2 _ _ ⟨hx, trivial⟩
  have e1 : w = .int x := e1
  subst e1
  exact lv_iload_n F.1.1 F.1.2.1 hd rfl e2 (hk ws H locs ls _ hc hs ⟨iR, iP, iD, iS, iL, _, _, rfl, rfl, iT⟩)
theorem xs_iload {n : Nat} (F : xm_F p R s m args meth c M d D dA b B0 L xs) (hd : decode (xm_by M) pc = .ok (.iload n, len)) (ho : len = 2 ∧ ∃ x, lo[n]? = some (.int x) ∧ xm_G p l e R s m args below meth c Qw D dA ad b B0 (xm_ml M) (pc + 2, lo, .int x :: st, h, cn, sn)) : xm_G p l e R s m args below meth c Qw D dA ad b B0 (xm_ml M) (pc, lo, st, h, cn, sn) := by
  obtain ⟨rfl, x, hx, hk⟩ := ho
  intro ws H locs ls rst hc hs hI
  obtain ⟨iR, iP, iD, iS, iL, iT⟩ := hI
  obtain ⟨w, e1, e2⟩ := iL.2.2.2 _ _ ⟨hx, trivial⟩
  have e1 : w = .int x := e1
  subst e1
  exact lv_iload F.1.1 F.1.2.1 hd e2 (hk ws H locs ls _ hc hs ⟨iR, iP, iD, iS, iL, _, _, rfl, rfl, iT⟩)
theorem xs_lload_n {n : Fin 4} (F : xm_F p R s m args meth c M d D dA b B0 L xs) (hd : decode (xm_by M) pc = .ok (.lload_n n, len)) (ho : len = 1 ∧ ∃ x z, lo[(n : Nat)]? = some (.long x) ∧ lo[(n : Nat) + 1]? = some (.float z) ∧ xm_G p l e R s m args below meth c Qw D dA ad b B0 (xm_ml M) (pc + 1, lo, .long x :: st, h, cn, sn)) : xm_G p l e R s m args below meth c Qw D dA ad b B0 (xm_ml M) (pc, lo, st, h, cn, sn) := by
  obtain ⟨rfl, x, z, hx, hz, hk⟩ := ho
  intro ws H locs ls rst hc hs hI
  obtain ⟨iR, iP, iD, iS, iL, iT⟩ := hI
  obtain ⟨w, e1, e2⟩ := iL.2.2.2 _ _ ⟨hx, z, hz⟩
  have e1 : w = .long x := e1
  subst e1
  exact lv_lload_n F.1.1 F.1.2.1 hd rfl e2 (hk ws H locs ls _ hc hs ⟨iR, iP, iD, iS, iL, _, _, rfl, rfl, iT⟩)
theorem xs_lload {n : Nat} (F : xm_F p R s m args meth c M d D dA b B0 L xs) (hd : decode (xm_by M) pc = .ok (.lload n, len)) (ho : len = 2 ∧ ∃ x z, lo[n]? = some (.long x) ∧ lo[n + 1]? = some (.float z) ∧ xm_G p l e R s m args below meth c Qw D dA ad b B0 (xm_ml M) (pc + 2, lo, .long x :: st, h, cn, sn)) : xm_G p l e R s m args below meth c Qw D dA ad b B0 (xm_ml M) (pc, lo, st, h, cn, sn) := by
  obtain ⟨rfl, x, z, hx, hz, hk⟩ := ho
  intro ws H locs ls rst hc hs hI
  obtain ⟨iR, iP, iD, iS, iL, iT⟩ := hI
  obtain ⟨w, e1, e2⟩ := iL.2.2.2 _ _ ⟨hx, z, hz⟩
  have e1 : w = .long x := e1
  subst e1
  exact lv_lload F.1.1 F.1.2.1 hd e2 (hk ws H locs ls _ hc hs ⟨iR, iP, iD, iS, iL, _, _, rfl, rfl, iT⟩)
theorem xs_istore_n {n : Fin 4} (F : xm_F p R s m args meth c M d D dA b B0 L xs) (hd : decode (xm_by M) pc = .ok (.istore_n n, len)) (ho : len = 1 ∧ ∃ x r, st = .int x :: r ∧ (n : Nat) < lo.length ∧ xm_G p l e R s m args below meth c Qw D dA ad b B0 (xm_ml M) (pc + 1, lo.set (n : Nat) (.int x), r, h, cn, sn)) : xm_G p l e R s m args below meth c Qw D dA ad b B0 (xm_ml M) (pc, lo, st, h, cn, sn) := by
  obtain ⟨rfl, x, r, rfl, hn, hk⟩ := ho
  intro ws H locs ls rst hc hs hI
  obtain ⟨iR, iP, iD, iS, iL, w1, r1, rfl, e1, iT⟩ := hI
  have e1 : w1 = .int x := e1
  subst e1
  exact lv_istore_n F.1.1 F.1.2.1 hd rfl (xm_all_has iL) (by rw [← iL.2.2.1]; exact hn) rfl (fun ls' hl => hk ws H locs ls' _ hc hs ⟨iR, iP, iD, iS, xm_l_set1 iL hn rfl rfl hl, iT⟩)
theorem xs_istore {n : Nat} (F : xm_F p R s m args meth c M d D dA b B0 L xs) (hd : decode (xm_by M) pc = .ok (.istore n, len)) (ho : len = 2 ∧ ∃ x r, st = .int x :: r ∧ n < lo.length ∧ xm_G p l e R s m args below meth c Qw D dA ad b B0 (xm_ml M) (pc + 2, lo.set n (.int x), r, h, cn, sn)) : xm_G p l e R s m args below meth c Qw D dA ad b B0 (xm_ml M) (pc, lo, st, h, cn, sn) := by
  obtain ⟨rfl, x, r, rfl, hn, hk⟩ := ho
  intro ws H locs ls rst hc hs hI
  obtain ⟨iR, iP, iD, iS, iL, w1, r1, rfl, e1, iT⟩ := hI
  have e1 : w1 = .int x := e1
  subst e1
  exact lv_istore F.1.1 F.1.2.1 hd (xm_all_has iL) (by rw [← iL.2.2.1]; exact hn) rfl (fun ls' hl => hk ws H locs ls' _ hc hs ⟨iR, iP, iD, iS, xm_l_set1 iL hn rfl rfl hl, iT⟩)
theorem xs_lstore_n {n : Fin 4} (F : xm_F p R s m args meth c M d D dA b B0 L xs) (hd : decode (xm_by M) pc = .ok (.lstore_n n, len)) (ho : len = 1 ∧ ∃ x r, st = .long x :: r ∧ (n : Nat) + 1 < lo.length ∧ xm_G p l e R s m args below meth c Qw D dA ad b B0 (xm_ml M) (pc + 1, (lo.set (n : Nat) (.long x)).set ((n : Nat) + 1) (.float 0), r, h, cn, sn)) : xm_G p l e R s m args below meth c Qw D dA ad b B0 (xm_ml M) (pc, lo, st, h, cn, sn) := by
  obtain ⟨rfl, x, r, rfl, hn, hk⟩ := ho
  intro ws H locs ls rst hc hs hI
  obtain ⟨iR, iP, iD, iS, iL, w1, r1, rfl, e1, iT⟩ := hI
  have e1 : w1 = .long x := e1
  subst e1
  exact lv_lstore_n F.1.1 F.1.2.1 hd rfl (xm_all_has iL) (by rw [← iL.2.2.1]; exact hn) rfl (fun ls' hl => hk ws H locs ls' _ hc hs ⟨iR, iP, iD, iS, xm_l_set2 iL hn hl, iT⟩)
theorem xs_lstore {n : Nat} (F : xm_F p R s m args meth c M d D dA b B0 L xs) (hd : decode (xm_by M) pc = .ok (.lstore n, len)) (ho : len = 2 ∧ ∃ x r, st = .long x :: r ∧ n + 1 < lo.length ∧ xm_G p l e R s m args below meth c Qw D dA ad b B0 (xm_ml M) (pc + 2, (lo.set n (.long x)).set (n + 1) (.float 0), r, h, cn, sn)) : xm_G p l e R s m args below meth c Qw D dA ad b B0 (xm_ml M) (pc, lo, st, h, cn, sn) := by
  obtain ⟨rfl, x, r, rfl, hn, hk⟩ := ho
  intro ws H locs ls rst hc hs hI
  obtain ⟨iR, iP, iD, iS, iL, w1, r1, rfl, e1, iT⟩ := hI
  have e1 : w1 = .long x := e1
  subst e1
  exact lv_lstore F.1.1 F.1.2.1 hd (xm_all_has iL) (by rw [← iL.2.2.1]; exact hn) rfl (fun ls' hl => hk ws H locs ls' _ hc hs ⟨iR, iP, iD, iS, xm_l_set2 iL hn hl, iT⟩)
theorem xs_astore_n {n : Fin 4} (F : xm_F p R s m args meth c M d D dA b B0 L xs) (hd : decode (xm_by M) pc = .ok (.astore_n n, len)) (ho : len = 1 ∧ ∃ k r, st = .ref k :: r ∧ (n : Nat) < lo.length ∧ xm_G p l e R s m args below meth c Qw D dA ad b B0 (xm_ml M) (pc + 1, lo.set (n : Nat) (.ref k), r, h, cn, sn)) : xm_G p l e R s m args below meth c Qw D dA ad b B0 (xm_ml M) (pc, lo, st, h, cn, sn) := by
  obtain ⟨rfl, k, r, rfl, hn, hk⟩ := ho
  intro ws H locs ls rst hc hs hI
  obtain ⟨iR, iP, iD, iS, iL, w1, r1, rfl, e1, iT⟩ := hI
  obtain ⟨a, e3, rfl⟩ : ∃ a, (xm_ad ws)[k]? = some a ∧ w1 = .ref a := e1
  exact lv_astore_n F.1.1 F.1.2.1 hd rfl (xm_all_has iL) (by rw [← iL.2.2.1]; exact hn) rfl (fun ls' hl => hk ws H locs ls' _ hc hs ⟨iR, iP, iD, iS, xm_l_set1 iL hn (v := .ref k) ⟨a, e3, rfl⟩ rfl hl, iT⟩)
theorem xs_astore {n : Nat} (F : xm_F p R s m args meth c M d D dA b B0 L xs) (hd : decode (xm_by M) pc = .ok (.astore n, len)) (ho : len = 2 ∧ ∃ k r, st = .ref k :: r ∧ n < lo.length ∧ xm_G p l e R s m args below meth c Qw D dA ad b B0 (xm_ml M) (pc + 2, lo.set n (.ref k), r, h, cn, sn)) : xm_G p l e R s m args below meth c Qw D dA ad b B0 (xm_ml M) (pc, lo, st, h, cn, sn) := by
  obtain ⟨rfl, k, r, rfl, hn, hk⟩ := ho
  intro ws H locs ls rst hc hs hI
  obtain ⟨iR, iP, iD, iS, iL, w1, r1, rfl, e1, iT⟩ := hI
  obtain ⟨a, e3, rfl⟩ : ∃ a, (xm_ad ws)[k]? = some a ∧ w1 = .ref a := e1
  exact lv_astore F.1.1 F.1.2.1 hd (xm_all_has iL) (by rw [← iL.2.2.1]; exact hn) rfl (fun ls' hl => hk ws H locs ls' _ hc hs ⟨iR, iP, iD, iS, xm_l_set1 iL hn (v := .ref k) ⟨a, e3, rfl⟩ rfl hl, iT⟩)
theorem xs_aload_n {n : Fin 4} (F : xm_F p R s m args meth c M d D dA b B0 L xs) (hd : decode (xm_by M) pc = .ok (.aload_n n, len)) (ho : len = 1 ∧ ∃ v, lo[(n : Nat)]? = some v ∧ xm_isr v ∧ xm_G p l e R s m args below meth c Qw D dA ad b B0 (xm_ml M) (pc + 1, lo, v :: st, h, cn, sn)) : xm_G p l e R s m args below meth c Qw D dA ad b B0 (xm_ml M) (pc, lo, st, h, cn, sn) := by
  obtain ⟨rfl, v, hx, hv, hk⟩ := ho
  intro ws H locs ls rst hc hs hI
  obtain ⟨iR, iP, iD, iS, iL, iT⟩ := hI
  rcases hv with ⟨k, rfl⟩ | rfl
  · obtain ⟨w, e1, e2⟩ := iL.2.2.2 _ _ ⟨hx, trivial⟩
    obtain ⟨a, e3, rfl⟩ : ∃ a, (xm_ad ws)[k]? = some a ∧ w = .ref a := e1
    exact lv_aload_n F.1.1 F.1.2.1 hd rfl e2 (hk ws H locs ls _ hc hs ⟨iR, iP, iD, iS, iL, _, _, rfl, ⟨a, e3, rfl⟩, iT⟩)
  · obtain ⟨w, e1, e2⟩ := iL.2.2.2 _ _ ⟨hx, trivial⟩
    have e1 : w = .ref b := e1
    subst e1
    exact lv_aload_n F.1.1 F.1.2.1 hd rfl e2 (hk ws H locs ls _ hc hs ⟨iR, iP, iD, iS, iL, _, _, rfl, rfl, iT⟩)
theorem xs_aload {n : Nat} (F : xm_F p R s m args meth c M d D dA b B0 L xs) (hd : decode (xm_by M) pc = .ok (.aload n, len)) (ho : len = 2 ∧ ∃ v, lo[n]? = some v ∧ xm_isr v ∧ xm_G p l e R s m args below meth c Qw D dA ad b B0 (xm_ml M) (pc + 2, lo, v :: st, h, cn, sn)) : xm_G p l e R s m args below meth c Qw D dA ad b B0 (xm_ml M) (pc, lo, st, h, cn, sn) := by
  obtain ⟨rfl, v, hx, hv, hk⟩ := ho
  intro ws H locs ls rst hc hs hI
  obtain ⟨iR, iP, iD, iS, iL, iT⟩ := hI
  rcases hv with ⟨k, rfl⟩ | rfl
  · obtain ⟨w, e1, e2⟩ := iL.2.2.2 _ _ ⟨hx, trivial⟩
    obtain ⟨a, e3, rfl⟩ : ∃ a, (xm_ad ws)[k]? = some a ∧ w = .ref a := e1
    exact lv_aload F.1.1 F.1.2.1 hd e2 (hk ws H locs ls _ hc hs ⟨iR, iP, iD, iS, iL, _, _, rfl, ⟨a, e3, rfl⟩, iT⟩)
  · obtain ⟨w, e1, e2⟩ := iL.2.2.2 _ _ ⟨hx, trivial⟩
    have e1 : w = .ref b := e1
    subst e1
    exact lv_aload F.1.1 F.1.2.1 hd e2 (hk ws H locs ls _ hc hs ⟨iR, iP, iD, iS, iL, _, _, rfl, rfl, iT⟩)
theorem xs_iinc {n : Nat} {k : Int} (F : xm_F p R s m args meth c M d D dA b B0 L xs) (hd : decode (xm_by M) pc = .ok (.iinc n k, len)) (ho : len = 3 ∧ ∃ x, lo[n]? = some (.int x) ∧ xm_G p l e R s m args below meth c Qw D dA ad b B0 (xm_ml M) (pc + 3, lo.set n (.int (x + Int32.ofInt k)), st, h, cn, sn)) : xm_G p l e R s m args below meth c Qw D dA ad b B0 (xm_ml M) (pc, lo, st, h, cn, sn) := by
  obtain ⟨rfl, x, hx, hk⟩ := ho
  intro ws H locs ls rst hc hs hI
  obtain ⟨iR, iP, iD, iS, iL, iT⟩ := hI
  obtain ⟨w, e1, e2⟩ := iL.2.2.2 _ _ ⟨hx, trivial⟩
  have e1 : w = .int x := e1
  subst e1
  obtain ⟨q, hq⟩ := List.getElem?_of_mem (xm_all_mem.mpr e2)
  have hn : n < lo.length := (List.getElem?_eq_some_iff.mp hx).1
  exact lv_iinc F.1.1 F.1.2.1 hd (xm_all_has iL) hq rfl (by rw [← iL.2.2.1]; exact hn) rfl (fun ls' hl => hk ws H locs ls' _ hc hs ⟨iR, iP, iD, iS, xm_l_set1 iL hn rfl rfl hl, iT⟩)
theorem xs_dup  (F : xm_F p R s m args meth c M d D dA b B0 L xs) (hd : decode (xm_by M) pc = .ok (.dup, len)) (ho : len = 1 ∧ ∃ v r, st = v :: r ∧ v.category = 1 ∧ xm_G p l e R s m args below meth c Qw D dA ad b B0 (xm_ml M) (pc + 1, lo, v :: v :: r, h, cn, sn)) : xm_G p l e R s m args below meth c Qw D dA ad b B0 (xm_ml M) (pc, lo, st, h, cn, sn) := by
  obtain ⟨rfl, v, r, rfl, hv, hk⟩ := ho
  intro ws H locs ls rst hc hs hI
  obtain ⟨iR, iP, iD, iS, iL, w1, r1, rfl, e1, iT⟩ := hI
  exact lv_dup F.1.1 F.1.2.1 hd (by rw [xm_v_cat e1]; exact hv) (hk ws H locs ls _ hc hs ⟨iR, iP, iD, iS, iL, _, _, rfl, e1, _, _, rfl, e1, iT⟩)
theorem xs_pop  (F : xm_F p R s m args meth c M d D dA b B0 L xs) (hd : decode (xm_by M) pc = .ok (.pop, len)) (ho : len = 1 ∧ ∃ v r, st = v :: r ∧ v.category = 1 ∧ xm_G p l e R s m args below meth c Qw D dA ad b B0 (xm_ml M) (pc + 1, lo, r, h, cn, sn)) : xm_G p l e R s m args below meth c Qw D dA ad b B0 (xm_ml M) (pc, lo, st, h, cn, sn) := by
  obtain ⟨rfl, v, r, rfl, hv, hk⟩ := ho
  intro ws H locs ls rst hc hs hI
  obtain ⟨iR, iP, iD, iS, iL, w1, r1, rfl, e1, iT⟩ := hI
  exact lv_pop F.1.1 F.1.2.1 hd (by rw [xm_v_cat e1]; exact hv) (hk ws H locs ls _ hc hs ⟨iR, iP, iD, iS, iL, iT⟩)
theorem xs_arraylength  (F : xm_F p R s m args meth c M d D dA b B0 L xs) (hd : decode (xm_by M) pc = .ok (.arraylength, len)) (ho : len = 1 ∧ ∃ r, st = .retAddr 0 :: r ∧ xm_G p l e R s m args below meth c Qw D dA ad b B0 (xm_ml M) (pc + 1, lo, .int (Int32.ofNat L) :: r, h, cn, sn)) : xm_G p l e R s m args below meth c Qw D dA ad b B0 (xm_ml M) (pc, lo, st, h, cn, sn) := by
  obtain ⟨rfl, r, rfl, hk⟩ := ho
  intro ws H locs ls rst hc hs hI
  obtain ⟨iR, iP, iD, iS, iL, w1, r1, rfl, e1, iT⟩ := hI
  have e1 : w1 = .ref b := e1
  subst e1
  have E := F.2.1
  exact va_slen F.1.1 F.1.2.1 E.2.1 (Nat.lt_of_lt_of_le E.2.2.1 E.2.2.2.1) (fun q => absurd q (Nat.not_le_of_lt E.2.2.1)) iS hd (hk ws H locs ls _ hc hs ⟨iR, iP, iD, iS, iL, _, _, rfl, rfl, iT⟩)
theorem xs_iaload  (F : xm_F p R s m args meth c M d D dA b B0 L xs) (hd : decode (xm_by M) pc = .ok (.iaload, len)) (ho : len = 1 ∧ ((∃ i r, st = .int i :: .retAddr 0 :: r ∧ vp_in i L ∧ xm_G p l e R s m args below meth c Qw D dA ad b B0 (xm_ml M) (pc + 1, lo, .int (xs i.toNatClampNeg) :: r, h, cn, sn)) ∨ ∃ i a r n f, st = .int i :: .ref a :: r ∧ h[a]? = some (.inl (.int, n, .inl f)) ∧ vp_in i n ∧ xm_G p l e R s m args below meth c Qw D dA ad b B0 (xm_ml M) (pc + 1, lo, .int (f i.toNatClampNeg) :: r, h, cn, sn))) : xm_G p l e R s m args below meth c Qw D dA ad b B0 (xm_ml M) (pc, lo, st, h, cn, sn) := by
  obtain ⟨rfl, ho⟩ := ho
  have E := F.2.1
  rcases ho with ⟨i, r, rfl, hin, hk⟩ | ⟨i, a, r, n, f, rfl, ha, hin, hk⟩
  · intro ws H locs ls rst hc hs hI
    obtain ⟨iR, iP, iD, iS, iL, w1, r1, rfl, e1, w2, r2, rfl, e2, iT⟩ := hI
    have e1 : w1 = .int i := e1
    have e2 : w2 = .ref b := e2
    subst e1; subst e2
    exact va_sld F.1.1 F.1.2.1 E.2.1 (Nat.lt_of_lt_of_le E.2.2.1 E.2.2.2.1) (fun q => absurd q (Nat.not_le_of_lt E.2.2.1)) iS hin hd (hk ws H locs ls _ hc hs ⟨iR, iP, iD, iS, iL, _, _, rfl, rfl, iT⟩)
  · intro ws H locs ls rst hc hs hI
    obtain ⟨iR, iP, iD, iS, iL, w1, r1, rfl, e1, w2, r2, rfl, e2, iT⟩ := hI
    have e1 : w1 = .int i := e1
    subst e1
    obtain ⟨q, e3, rfl⟩ : ∃ q, (xm_ad ws)[a]? = some q ∧ w2 = .ref q := e2
    obtain ⟨q2, ec, f1, f2, f3⟩ := xm_R_get iR ha
    have f3 : ec = .inl (dA .int, n, .inl f) := f3
    subst f3
    obtain rfl : q = q2 := Option.some.inj (e3.symm.trans f2)
    exact va_iald F.1.1 F.1.2.1 E.1 iP a 0 f1 rfl hin hd (hk ws H locs ls _ hc hs ⟨iR, iP, iD, iS, iL, _, _, rfl, rfl, iT⟩)
theorem xs_laload  (F : xm_F p R s m args meth c M d D dA b B0 L xs) (hd : decode (xm_by M) pc = .ok (.laload, len)) (ho : len = 1 ∧ ∃ i a r n f, st = .int i :: .ref a :: r ∧ h[a]? = some (.inl (.long, n, .inr (.inl f))) ∧ vp_in i n ∧ xm_G p l e R s m args below meth c Qw D dA ad b B0 (xm_ml M) (pc + 1, lo, .long (f i.toNatClampNeg) :: r, h, cn, sn)) : xm_G p l e R s m args below meth c Qw D dA ad b B0 (xm_ml M) (pc, lo, st, h, cn, sn) := by
  obtain ⟨rfl, i, a, r, n, f, rfl, ha, hin, hk⟩ := ho
  intro ws H locs ls rst hc hs hI
  obtain ⟨iR, iP, iD, iS, iL, w1, r1, rfl, e1, w2, r2, rfl, e2, iT⟩ := hI
  have e1 : w1 = .int i := e1
  subst e1
  obtain ⟨q, e3, rfl⟩ : ∃ q, (xm_ad ws)[a]? = some q ∧ w2 = .ref q := e2
  obtain ⟨q2, ec, f1, f2, f3⟩ := xm_R_get iR ha
  have f3 : ec = .inl (dA .long, n, .inr (.inl f)) := f3
  subst f3
  obtain rfl : q = q2 := Option.some.inj (e3.symm.trans f2)
  exact va_lald F.1.1 F.1.2.1 F.2.1.1 iP a 1 f1 rfl hin hd (hk ws H locs ls _ hc hs ⟨iR, iP, iD, iS, iL, _, _, rfl, rfl, iT⟩)
theorem xs_aaload  (F : xm_F p R s m args meth c M d D dA b B0 L xs) (hd : decode (xm_by M) pc = .ok (.aaload, len)) (ho : len = 1 ∧ ∃ i a r ty n f q, st = .int i :: .ref a :: r ∧ h[a]? = some (.inl (ty, n, .inr (.inr (.inr (.inr f))))) ∧ (ty = .array .int ∨ ty = .object tb_rc) ∧ vp_in i n ∧ f i.toNatClampNeg = some q ∧ xm_G p l e R s m args below meth c Qw D dA ad b B0 (xm_ml M) (pc + 1, lo, .ref q :: r, h, cn, sn)) : xm_G p l e R s m args below meth c Qw D dA ad b B0 (xm_ml M) (pc, lo, st, h, cn, sn) := by
  obtain ⟨rfl, i, a, r, ty, n, f, q0, rfl, ha, hty, hin, hq, hk⟩ := ho
  intro ws H locs ls rst hc hs hI
  obtain ⟨iR, iP, iD, iS, iL, w1, r1, rfl, e1, w2, r2, rfl, e2, iT⟩ := hI
  have e1 : w1 = .int i := e1
  subst e1
  obtain ⟨q, e3, rfl⟩ : ∃ q, (xm_ad ws)[a]? = some q ∧ w2 = .ref q := e2
  obtain ⟨q2, ec, f1, f2, f3⟩ := xm_R_get iR ha
  obtain ⟨g, rfl, hg⟩ : ∃ g, ec = .inl (dA ty, n, .inr (.inr (.inr (.inr g)))) ∧ ∀ j, j < n → xm_o (xm_ad ws) (f j) (g j) := f3
  obtain rfl : q = q2 := Option.some.inj (e3.symm.trans f2)
  have hlt : i.toNatClampNeg < n := Nat.not_le.mp fun q => hin (Or.inr q)
  have hgi := hg _ hlt
  rw [hq] at hgi
  obtain ⟨z, hz1, hz2⟩ : ∃ z, (xm_ad ws)[q0]? = some z ∧ g i.toNatClampNeg = some z := hgi
  have hAr : ArrOfT s (dA ty) ty ∧ ty.isReference = true := by
    rcases hty with rfl | rfl
    · exact ⟨(F.2.1.1.2 2 (dA (.array .int), .array .int) rfl).1, rfl⟩
    · exact ⟨(F.2.1.1.2 3 (dA (.object tb_rc), .object tb_rc) rfl).1, rfl⟩
  exact W.aald (v := .ref z) (ty := ty) F.1.1 F.1.2.1 (iP a _ f1) (hAr.1 n (fun j => va_rf (g j))) hAr.2 (fun q => by cases q) (by show ¬ (i < 0 ∨ (arrV _ _ _).slots.size ≤ _); rw [arrV_size]; exact hin) (by show (arrV _ _ _).slots[_]? = _; rw [arrV_read _ _ hlt, hz2]; rfl) rfl rfl hd (hk ws H locs ls _ hc hs ⟨iR, iP, iD, iS, iL, _, _, rfl, ⟨z, hz1, rfl⟩, iT⟩)
theorem xs_iastore  (F : xm_F p R s m args meth c M d D dA b B0 L xs) (hd : decode (xm_by M) pc = .ok (.iastore, len)) (ho : len = 1 ∧ ∃ x i a r n f, st = .int x :: .int i :: .ref a :: r ∧ h[a]? = some (.inl (.int, n, .inl f)) ∧ vp_in i n ∧ xm_G p l e R s m args below meth c Qw D dA ad b B0 (xm_ml M) (pc + 1, lo, r, h.set a (.inl (.int, n, .inl (upd f i.toNatClampNeg x))), cn, sn)) : xm_G p l e R s m args below meth c Qw D dA ad b B0 (xm_ml M) (pc, lo, st, h, cn, sn) := by
  obtain ⟨rfl, x, i, a, r, n, f, rfl, ha, hin, hk⟩ := ho
  intro ws H locs ls rst hc hs hI
  obtain ⟨iR, iP, iD, iS, iL, w0, r0, rfl, e0, w1, r1, rfl, e1, w2, r2, rfl, e2, iT⟩ := hI
  have e0 : w0 = .int x := e0
  have e1 : w1 = .int i := e1
  subst e0; subst e1
  obtain ⟨q, e3, rfl⟩ : ∃ q, (xm_ad ws)[a]? = some q ∧ w2 = .ref q := e2
  obtain ⟨q2, ec, f1, f2, f3⟩ := xm_R_get iR ha
  have f3 : ec = .inl (dA .int, n, .inl f) := f3
  subst f3
  obtain rfl : q = q2 := Option.some.inj (e3.symm.trans f2)
  have had := xm_ad_set (e := .inl (dA .int, n, .inl (upd f i.toNatClampNeg x))) f1
  exact va_iast F.1.1 F.1.2.1 F.2.1.1 iP iD iS a 0 f1 rfl hin hd (fun H1 locs1 hP1 hD1 hS1 => hk _ H1 locs1 ls _ hc hs ⟨xm_R_set iR f1 rfl, hP1, hD1, hS1, by show xm_l (xm_ad _) b _ lo ls; rw [had]; exact iL, by show xm_st (xm_ad _) b r _; rw [had]; exact iT⟩)
theorem xs_lastore  (F : xm_F p R s m args meth c M d D dA b B0 L xs) (hd : decode (xm_by M) pc = .ok (.lastore, len)) (ho : len = 1 ∧ ∃ x i a r n f, st = .long x :: .int i :: .ref a :: r ∧ h[a]? = some (.inl (.long, n, .inr (.inl f))) ∧ vp_in i n ∧ xm_G p l e R s m args below meth c Qw D dA ad b B0 (xm_ml M) (pc + 1, lo, r, h.set a (.inl (.long, n, .inr (.inl (vp_updL f i.toNatClampNeg x)))), cn, sn)) : xm_G p l e R s m args below meth c Qw D dA ad b B0 (xm_ml M) (pc, lo, st, h, cn, sn) := by
  obtain ⟨rfl, x, i, a, r, n, f, rfl, ha, hin, hk⟩ := ho
  intro ws H locs ls rst hc hs hI
  obtain ⟨iR, iP, iD, iS, iL, w0, r0, rfl, e0, w1, r1, rfl, e1, w2, r2, rfl, e2, iT⟩ := hI
  have e0 : w0 = .long x := e0
  have e1 : w1 = .int i := e1
  subst e0; subst e1
  obtain ⟨q, e3, rfl⟩ : ∃ q, (xm_ad ws)[a]? = some q ∧ w2 = .ref q := e2
  obtain ⟨q2, ec, f1, f2, f3⟩ := xm_R_get iR ha
  have f3 : ec = .inl (dA .long, n, .inr (.inl f)) := f3
  subst f3
  obtain rfl : q = q2 := Option.some.inj (e3.symm.trans f2)
  have had := xm_ad_set (e := .inl (dA .long, n, .inr (.inl (vp_updL f i.toNatClampNeg x)))) f1
  exact va_last F.1.1 F.1.2.1 F.2.1.1 iP iD iS a 1 f1 rfl hin hd (fun H1 locs1 hP1 hD1 hS1 => hk _ H1 locs1 ls _ hc hs ⟨xm_R_set iR f1 rfl, hP1, hD1, hS1, by show xm_l (xm_ad _) b _ lo ls; rw [had]; exact iL, by show xm_st (xm_ad _) b r _; rw [had]; exact iT⟩)
theorem xs_aastore  (F : xm_F p R s m args meth c M d D dA b B0 L xs) (hd : decode (xm_by M) pc = .ok (.aastore, len)) (ho : len = 1 ∧ ∃ v i a r ci fs n f, st = .ref v :: .int i :: .ref a :: r ∧ h[a]? = some (.inl (.object tb_rc, n, .inr (.inr (.inr (.inr f))))) ∧ (∃ q, vwCl[ci]? = some q ∧ q.1 = tb_rc) ∧ h[v]? = some (.inr (ci, fs)) ∧ vp_in i n ∧ xm_G p l e R s m args below meth c Qw D dA ad b B0 (xm_ml M) (pc + 1, lo, r, h.set a (.inl (.object tb_rc, n, .inr (.inr (.inr (.inr (va_up f i.toNatClampNeg (some v))))))), cn, sn)) : xm_G p l e R s m args below meth c Qw D dA ad b B0 (xm_ml M) (pc, lo, st, h, cn, sn) := by
  obtain ⟨rfl, v, i, a, r, ci, fs, n, f, rfl, ha, ⟨cq, hcq, hcn⟩, hv, hin, hk⟩ := ho
  intro ws H locs ls rst hc hs hI
  obtain ⟨iR, iP, iD, iS, iL, w0, r0, rfl, e0, w1, r1, rfl, e1, w2, r2, rfl, e2, iT⟩ := hI
  have e1 : w1 = .int i := e1
  subst e1
  obtain ⟨q, e3, rfl⟩ : ∃ q, (xm_ad ws)[a]? = some q ∧ w2 = .ref q := e2
  obtain ⟨qv, e4, rfl⟩ : ∃ q, (xm_ad ws)[v]? = some q ∧ w0 = .ref q := e0
  obtain ⟨q2, ec, f1, f2, f3⟩ := xm_R_get iR ha
  obtain ⟨g, rfl, hg⟩ : ∃ g, ec = .inl (dA (.object tb_rc), n, .inr (.inr (.inr (.inr g)))) ∧ ∀ j, j < n → xm_o (xm_ad ws) (f j) (g j) := f3
  obtain rfl : q = q2 := Option.some.inj (e3.symm.trans f2)
  obtain ⟨q3, ev, f4, f5, f6⟩ := xm_R_get iR hv
  obtain ⟨gs, rfl, hgs⟩ : ∃ gs, ev = .inr (ci, gs) ∧ xm_st (xm_ad ws) b fs gs := f6
  obtain rfl : qv = q3 := Option.some.inj (e4.symm.trans f5)
  have had := xm_ad_set (e := .inl (dA (.object tb_rc), n, .inr (.inr (.inr (.inr (va_up g i.toNatClampNeg (some qv))))))) f1
  have hcc : xm_c (xm_ad ws) b dA (.inl (.object tb_rc, n, .inr (.inr (.inr (.inr (va_up f i.toNatClampNeg (some v))))))) (.inl (dA (.object tb_rc), n, .inr (.inr (.inr (.inr (va_up g i.toNatClampNeg (some qv))))))) := by
    refine ⟨_, rfl, fun j hj => ?_⟩
    unfold va_up
    split
    · exact ⟨qv, e4, rfl⟩
    · exact hg j hj
  exact va_astq F.1.1 F.1.2.1 F.2.1.1 iP iD iS a 3 v ci f1 (by rw [hcn]; rfl) f4 hcq hin hd (fun H1 locs1 hP1 hD1 hS1 => hk _ H1 locs1 ls _ hc hs ⟨xm_R_set iR f1 hcc, hP1, hD1, hS1, by show xm_l (xm_ad _) b _ lo ls; rw [had]; exact iL, by show xm_st (xm_ad _) b r _; rw [had]; exact iT⟩)
theorem xs_getfield {k : Nat} (F : xm_F p R s m args meth c M d D dA b B0 L xs) (hd : decode (xm_by M) pc = .ok (.getfield k, len)) (ho : len = 3 ∧ ∃ a r ci j fs v C T N ty, xm_cl ci C T N ty ∧ j < N ∧ xm_fk (xm_y M).cls k (T j) ∧ st = .ref a :: r ∧ h[a]? = some (.inr (ci, fs)) ∧ fs[j]? = some v ∧ xm_G p l e R s m args below meth c Qw D dA ad b B0 (xm_ml M) (pc + 3, lo, v :: r, h, cn, sn)) : xm_G p l e R s m args below meth c Qw D dA ad b B0 (xm_ml M) (pc, lo, st, h, cn, sn) := by
  obtain ⟨rfl, a, r, ci, j, fs, v, C, T, N, ty, hcl, hj, hfk, rfl, ha, hv, hk⟩ := ho
  intro ws H locs ls rst hc hs hI
  obtain ⟨iR, iP, iD, iS, iL, w1, r1, rfl, e1, iT⟩ := hI
  obtain ⟨q, e3, rfl⟩ : ∃ q, (xm_ad ws)[a]? = some q ∧ w1 = .ref q := e1
  obtain ⟨q2, ec, f1, f2, f3⟩ := xm_R_get iR ha
  obtain ⟨gs, rfl, hgs⟩ : ∃ gs, ec = .inr (ci, gs) ∧ xm_st (xm_ad ws) b fs gs := f3
  obtain rfl : q = q2 := Option.some.inj (e3.symm.trans f2)
  obtain ⟨u, hu, hvu⟩ := xm_st_get hgs hv
  have hw := hk ws H locs ls _ hc hs ⟨iR, iP, iD, iS, iL, _, _, rfl, hvu, iT⟩
  rcases hfk with hf | ⟨host, hf⟩
  · exact va_get F.1.1 F.1.2.1 F.1.2.2.2.2 hcl.2.1 F.1.2.2.2.1 F.2.1.1 iP a f1 hcl.1 j hj (F.1.2.2.2.2 _ hf) (fun _ h9 => h9) hu hd hw
  · exact va_getN F.1.1 F.1.2.1 F.1.2.2.2.2 hcl.2.1 F.1.2.2.2.1 F.2.1.1 iP a f1 hcl.1 j hj (va_Nw.use rfl (F.2.1.2.2.2.2.1 _ hf)) (fun _ h9 => h9) hu hd hw
theorem xs_putfield {k : Nat} (F : xm_F p R s m args meth c M d D dA b B0 L xs) (hd : decode (xm_by M) pc = .ok (.putfield k, len)) (ho : len = 3 ∧ ∃ v a r ci j fs C T N ty, xm_cl ci C T N ty ∧ j < N ∧ xm_fk (xm_y M).cls k (T j) ∧ ((T j).2.2.2 = false ∨ ((T j).2.2.2 = true ∧ (T j).1 = (xm_y M).cls ∧ (xm_y M).name = "<init>" ∧ Cond.fieldLink (xm_y M).cls k (T j).1 (T j).2.1 (T j).2.2.1 ∈ tb_all)) ∧ st = v :: .ref a :: r ∧ h[a]? = some (.inr (ci, fs)) ∧ j < fs.length ∧ narrow (ty j) v = v ∧ fits (ty j) v = true ∧ xm_G p l e R s m args below meth c Qw D dA ad b B0 (xm_ml M) (pc + 3, lo, r, h.set a (.inr (ci, fs.set j v)), cn, sn)) : xm_G p l e R s m args below meth c Qw D dA ad b B0 (xm_ml M) (pc, lo, st, h, cn, sn) := by
  obtain ⟨rfl, v, a, r, ci, j, fs, C, T, N, ty, hcl, hj, hfk, hfin, rfl, ha, hjl, hn, hfit, hk⟩ := ho
  intro ws H locs ls rst hc hs hI
  obtain ⟨iR, iP, iD, iS, iL, w0, r0, rfl, e0, w1, r1, rfl, e1, iT⟩ := hI
  obtain ⟨q, e3, rfl⟩ : ∃ q, (xm_ad ws)[a]? = some q ∧ w1 = .ref q := e1
  obtain ⟨q2, ec, f1, f2, f3⟩ := xm_R_get iR ha
  obtain ⟨gs, rfl, hgs⟩ : ∃ gs, ec = .inr (ci, gs) ∧ xm_st (xm_ad ws) b fs gs := f3
  obtain rfl : q = q2 := Option.some.inj (e3.symm.trans f2)
  have had := xm_ad_set (e := .inr (ci, gs.set j w0)) f1
  have hgl : j < gs.length := by rw [xm_st_len hgs]; exact hjl
  have hcc : xm_c (xm_ad ws) b dA (.inr (ci, fs.set j v)) (.inr (ci, gs.set j w0)) := ⟨_, rfl, xm_st_set hgs e0⟩
  have hw : ∀ (H1 : Heap) (locs1 : List Loc), va_P D vwCl (ws.set a (q, .inr (ci, gs.set j w0))) H1 → va_D (xm_A B0) (ws.set a (q, .inr (ci, gs.set j w0))) → va_S (xm_A B0) s.heap H1 locs1 → W p l e R s m args below meth c H1 locs1 cn sn Qw (F0 m (pc + 3) ls r1) := fun H1 locs1 hP1 hD1 hS1 => hk _ H1 locs1 ls _ hc hs ⟨xm_R_set iR f1 hcc, hP1, hD1, hS1, by show xm_l (xm_ad _) b _ lo ls; rw [had]; exact iL, by show xm_st (xm_ad _) b r _; rw [had]; exact iT⟩
  have hn2 := xm_v_narrow e0 hn
  have hf2 := xm_v_fits e0 hfit
  rcases hfin with hfin | ⟨hfin, hown, hnm, hlk⟩
  · rcases hfk with hf | ⟨host, hf⟩
    · exact va_put F.1.1 F.1.2.1 F.1.2.2.2.2 hcl.2.1 ty hcl.2.2.1 hcl.2.2.2 F.1.2.2.2.1 F.2.1.1 iP iD iS a f1 hcl.1 j hj (F.1.2.2.2.2 _ hf) (fun _ h9 => h9) hfin (hcl.2.2.1 j hj) hn2 hf2 hgl hd hw
    · exact va_putN F.1.1 F.1.2.1 F.1.2.2.2.2 hcl.2.1 ty hcl.2.2.1 hcl.2.2.2 F.1.2.2.2.1 F.2.1.1 iP iD iS a f1 hcl.1 j hj (va_Nw.use rfl (F.2.1.2.2.2.2.1 _ hf)) (fun _ h9 => h9) hfin (hcl.2.2.1 j hj) hn2 hf2 hgl hd hw
  · exact va_putF F.1.1 F.1.2.1 F.1.2.2.2.2 hcl.2.1 ty hcl.2.2.1 hcl.2.2.2 F.1.2.2.2.1 F.2.1.1 iP iD iS a f1 hcl.1 j hj (F.1.2.2.2.2 _ hlk) (fun _ h9 => h9) hfin (F.2.2.2.2.trans hnm) hown (hcl.2.2.1 j hj) hn2 hf2 hgl hd hw
theorem xs_newarray_int  (F : xm_F p R s m args meth c M d D dA b B0 L xs) (hd : decode (xm_by M) pc = .ok (.newarray .int, len)) (ho : len = 2 ∧ ∃ n r, st = .int n :: r ∧ ¬ n < 0 ∧ n.toNatClampNeg ≤ 65536 ∧ cn + 1 ≤ xm_mc M ∧ sn + n.toNatClampNeg ≤ xm_ms M ∧ Cond.arrayClass .int ∈ tb_all ∧ xm_G p l e R s m args below meth c Qw D dA ad b B0 (xm_ml M) (pc + 2, lo, .ref h.length :: r, h ++ [.inl (.int, n.toNatClampNeg, .inl (fun _ => 0))], cn + 1, sn + n.toNatClampNeg)) : xm_G p l e R s m args below meth c Qw D dA ad b B0 (xm_ml M) (pc, lo, st, h, cn, sn) := by
  obtain ⟨rfl, n, r, rfl, hn, hb, hcl, hsl, hw, hk⟩ := ho
  intro ws H locs ls rst hc hs hI
  obtain ⟨iR, iP, iD, iS, iL, w1, r1, rfl, e1, iT⟩ := hI
  have e1 : w1 = .int n := e1
  subst e1
  have E := F.2.1
  refine va_newa (atype := .int) (ty := .int) (N' := n.toNatClampNeg) (a0 := (n.toNatClampNeg, .inl (fun _ => 0))) F.1.1 F.1.2.1 (F.1.2.2.2.2 _ hw) rfl E.1 iP iD iS (fun q hq => Nat.le_trans E.2.2.2.1 hq) (fun cA => rfl) hn rfl (by show _ * _ ≤ _; simp only [componentBytes]; omega) (by rw [F.2.2.1.1]; exact hcl) (by rw [F.2.2.1.2]; exact hsl) hd (fun q cA H1 hK1 hP1 hD1 hS1 => ?_)
  have hA : cA = dA .int := by
    have h1 := (hK1.2 4 (cA, .int) rfl).2
    have h2 := (E.1.2 0 (dA .int, .int) rfl).2
    exact Option.some.inj (h1.symm.trans h2)
  subst hA
  exact hk _ H1 locs ls _ (by show _ ≤ R.cells; rw [F.2.2.1.1]; exact hcl) (by show _ ≤ R.slots; rw [F.2.2.1.2]; exact hsl) ⟨xm_R_push iR (rfl), hP1, hD1, hS1, by show xm_l (xm_ad _) b _ lo ls; rw [xm_ad_push]; exact xm_l_mono _ iL, _, _, rfl, ⟨q, by show (xm_ad _)[h.length]? = some q; rw [xm_ad_push, ← iR.1]; exact xm_ad_new ws q, rfl⟩, by show xm_st (xm_ad _) b r _; rw [xm_ad_push]; exact xm_st_mono _ iT⟩
theorem xs_newarray_long  (F : xm_F p R s m args meth c M d D dA b B0 L xs) (hd : decode (xm_by M) pc = .ok (.newarray .long, len)) (ho : len = 2 ∧ ∃ n r, st = .int n :: r ∧ ¬ n < 0 ∧ n.toNatClampNeg ≤ 65536 ∧ cn + 1 ≤ xm_mc M ∧ sn + n.toNatClampNeg ≤ xm_ms M ∧ Cond.arrayClass .long ∈ tb_all ∧ xm_G p l e R s m args below meth c Qw D dA ad b B0 (xm_ml M) (pc + 2, lo, .ref h.length :: r, h ++ [.inl (.long, n.toNatClampNeg, .inr (.inl (fun _ => 0)))], cn + 1, sn + n.toNatClampNeg)) : xm_G p l e R s m args below meth c Qw D dA ad b B0 (xm_ml M) (pc, lo, st, h, cn, sn) := by
  obtain ⟨rfl, n, r, rfl, hn, hb, hcl, hsl, hw, hk⟩ := ho
  intro ws H locs ls rst hc hs hI
  obtain ⟨iR, iP, iD, iS, iL, w1, r1, rfl, e1, iT⟩ := hI
  have e1 : w1 = .int n := e1
  subst e1
  have E := F.2.1
  refine va_newa (atype := .long) (ty := .long) (N' := n.toNatClampNeg) (a0 := (n.toNatClampNeg, .inr (.inl (fun _ => 0)))) F.1.1 F.1.2.1 (F.1.2.2.2.2 _ hw) rfl E.1 iP iD iS (fun q hq => Nat.le_trans E.2.2.2.1 hq) (fun cA => rfl) hn rfl (by show _ * _ ≤ _; simp only [componentBytes]; omega) (by rw [F.2.2.1.1]; exact hcl) (by rw [F.2.2.1.2]; exact hsl) hd (fun q cA H1 hK1 hP1 hD1 hS1 => ?_)
  have hA : cA = dA .long := by
    have h1 := (hK1.2 4 (cA, .long) rfl).2
    have h2 := (E.1.2 1 (dA .long, .long) rfl).2
    exact Option.some.inj (h1.symm.trans h2)
  subst hA
  exact hk _ H1 locs ls _ (by show _ ≤ R.cells; rw [F.2.2.1.1]; exact hcl) (by show _ ≤ R.slots; rw [F.2.2.1.2]; exact hsl) ⟨xm_R_push iR (rfl), hP1, hD1, hS1, by show xm_l (xm_ad _) b _ lo ls; rw [xm_ad_push]; exact xm_l_mono _ iL, _, _, rfl, ⟨q, by show (xm_ad _)[h.length]? = some q; rw [xm_ad_push, ← iR.1]; exact xm_ad_new ws q, rfl⟩, by show xm_st (xm_ad _) b r _; rw [xm_ad_push]; exact xm_st_mono _ iT⟩
theorem xs_anewarray {k : Nat} (F : xm_F p R s m args meth c M d D dA b B0 L xs) (hd : decode (xm_by M) pc = .ok (.anewarray k, len)) (ho : len = 3 ∧ ∃ n r, Cond.classLink (xm_y M).cls k tb_rc ∈ tb_all ∧ st = .int n :: r ∧ ¬ n < 0 ∧ n.toNatClampNeg ≤ 65536 ∧ cn + 1 ≤ xm_mc M ∧ sn + n.toNatClampNeg ≤ xm_ms M ∧ xm_G p l e R s m args below meth c Qw D dA ad b B0 (xm_ml M) (pc + 3, lo, .ref h.length :: r, h ++ [.inl (.object tb_rc, n.toNatClampNeg, .inr (.inr (.inr (.inr (fun _ => none)))))], cn + 1, sn + n.toNatClampNeg)) : xm_G p l e R s m args below meth c Qw D dA ad b B0 (xm_ml M) (pc, lo, st, h, cn, sn) := by
  obtain ⟨rfl, n, r, hw, rfl, hn, hb, hcl, hsl, hk⟩ := ho
  intro ws H locs ls rst hc hs hI
  obtain ⟨iR, iP, iD, iS, iL, w1, r1, rfl, e1, iT⟩ := hI
  have e1 : w1 = .int n := e1
  subst e1
  have E := F.2.1
  refine va_newq (C := tb_rc) (N' := n.toNatClampNeg) F.1.1 F.1.2.1 F.1.2.2.2.1 (F.1.2.2.2.2 _ hw) E.2.2.2.2.2.1 E.1 iP iD iS (fun q hq => Nat.le_trans E.2.2.2.1 hq) hn rfl (by omega) (by rw [F.2.2.1.1]; exact hcl) (by rw [F.2.2.1.2]; exact hsl) hd (fun q cA H1 hK1 hP1 hD1 hS1 => ?_)
  have hA : cA = dA (.object tb_rc) := by
    obtain ⟨_, _, -, -, -, h1⟩ := (hK1.2 4 (cA, .object tb_rc) rfl).2
    obtain ⟨_, _, -, -, -, h2⟩ := (E.1.2 3 (dA (.object tb_rc), .object tb_rc) rfl).2
    exact Option.some.inj (h1.symm.trans h2)
  subst hA
  exact hk _ H1 locs ls _ (by show _ ≤ R.cells; rw [F.2.2.1.1]; exact hcl) (by show _ ≤ R.slots; rw [F.2.2.1.2]; exact hsl) ⟨xm_R_push iR (⟨_, rfl, fun _ _ => rfl⟩), hP1, hD1, hS1, by show xm_l (xm_ad _) b _ lo ls; rw [xm_ad_push]; exact xm_l_mono _ iL, _, _, rfl, ⟨q, by show (xm_ad _)[h.length]? = some q; rw [xm_ad_push, ← iR.1]; exact xm_ad_new ws q, rfl⟩, by show xm_st (xm_ad _) b r _; rw [xm_ad_push]; exact xm_st_mono _ iT⟩
theorem xs_new {k : Nat} (F : xm_F p R s m args meth c M d D dA b B0 L xs) (hd : decode (xm_by M) pc = .ok (.new k, len)) (ho : len = 3 ∧ ∃ ci C T N ty fs, xm_cl ci C T N ty ∧ Cond.classLink (xm_y M).cls k C ∈ tb_all ∧ Cond.instantiable C N ∈ tb_all ∧ Cond.initialized C ∈ tb_all ∧ (∀ j, j < N → defaultValue (ty j) = vp_V fs j) ∧ fs.all xm_plain = true ∧ cn + 1 ≤ xm_mc M ∧ sn + N ≤ xm_ms M ∧ xm_G p l e R s m args below meth c Qw D dA ad b B0 (xm_ml M) (pc + 3, lo, .ref h.length :: st, h ++ [.inr (ci, fs)], cn + 1, sn + N)) : xm_G p l e R s m args below meth c Qw D dA ad b B0 (xm_ml M) (pc, lo, st, h, cn, sn) := by
  obtain ⟨rfl, ci, C, T, N, ty, fs, hcl, hw1, hw2, hw3, hdf, hpl, hcl1, hsl, hk⟩ := ho
  intro ws H locs ls rst hc hs hI
  obtain ⟨iR, iP, iD, iS, iL, iT⟩ := hI
  have E := F.2.1
  refine va_new (ci := ci) (fs := fs) F.1.1 F.1.2.1 F.1.2.2.2.2 hcl.2.1 ty hcl.2.2.1 F.1.2.2.2.1 (F.1.2.2.2.2 _ hw1) (F.1.2.2.2.2 _ hw2) (F.1.2.2.2.2 _ hw3) E.1 iP iD iS (fun q hq => Nat.le_trans E.2.2.2.1 hq) hcl.1 hdf (by rw [F.2.2.1.1]; exact hcl1) (by rw [F.2.2.1.2]; exact hsl) hd (fun q H1 hP1 hD1 hS1 => ?_)
  exact hk _ H1 locs ls _ (by show _ ≤ R.cells; rw [F.2.2.1.1]; exact hcl1) (by show _ ≤ R.slots; rw [F.2.2.1.2]; exact hsl) ⟨xm_R_push iR (⟨_, rfl, xm_st_plain hpl⟩), hP1, hD1, hS1, by show xm_l (xm_ad _) b _ lo ls; rw [xm_ad_push]; exact xm_l_mono _ iL, _, _, rfl, ⟨q, by show (xm_ad _)[h.length]? = some q; rw [xm_ad_push, ← iR.1]; exact xm_ad_new ws q, rfl⟩, by show xm_st (xm_ad _) b st _; rw [xm_ad_push]; exact xm_st_mono _ iT⟩
theorem xs_objInit {k : Nat} (F : xm_F p R s m args meth c M d D dA b B0 L xs) (hd : decode (xm_by M) pc = .ok (.invokespecial k, len)) (ho : len = 3 ∧ xm_oi (xm_y M).cls k ∧ ∃ a r, st = .ref a :: r ∧ xm_sum r ≤ 8 ∧ xm_G p l e R s m args below meth c Qw D dA ad b B0 (xm_ml M) (pc + 3, lo, r, h, cn, sn)) : xm_G p l e R s m args below meth c Qw D dA ad b B0 (xm_ml M) (pc, lo, st, h, cn, sn) := by
  obtain ⟨rfl, ⟨hw1, hw2, hw3⟩, a, r, rfl, hr, hk⟩ := ho
  intro ws H locs ls rst hc hs hI
  obtain ⟨iR, iP, iD, iS, iL, w1, r1, rfl, e1, iT⟩ := hI
  obtain ⟨q, e3, rfl⟩ : ∃ q, (xm_ad ws)[a]? = some q ∧ w1 = .ref q := e1
  have hsum : (r1.map fun v => v.category).sum ≤ 8 := by
    have := xm_st_sum iT
    unfold xm_sum at this hr
    omega
  have h0 := lv_room (m := m) (pc := pc) (ls := ls) (rest := .ref q :: r1) hsum
  refine W.objInit F.1.1 F.1.2.1 F.1.2.2.2.1 (F.1.2.2.2.2 _ hw1) (F.1.2.2.2.2 _ hw2) (F.1.2.2.2.2 _ hw3) rfl (by rw [F.1.2.2.1]; exact iL.1) rfl hd (by have := F.2.2.2.1.1; omega) (Nat.le_trans (Nat.add_le_add_right h0 12) (by have := F.2.2.2.1.2; omega)) ?_
  exact hk ws H locs ls _ hc hs ⟨iR, iP, iD, iS, iL, iT⟩
theorem xs_mmax {k : Nat} (F : xm_F p R s m args meth c M d D dA b B0 L xs) (hd : decode (xm_by M) pc = .ok (.invokestatic k, len)) (ho : len = 3 ∧ xm_mx (xm_y M).cls k ∧ ∃ x y r, st = .int y :: .int x :: r ∧ xm_sum r ≤ 8 ∧ xm_G p l e R s m args below meth c Qw D dA ad b B0 (xm_ml M) (pc + 3, lo, .int (if x < y then y else x) :: r, h, cn, sn)) : xm_G p l e R s m args below meth c Qw D dA ad b B0 (xm_ml M) (pc, lo, st, h, cn, sn) := by
  obtain ⟨rfl, ⟨hw1, hw2, hw3, hw4⟩, x, y, r, rfl, hr, hk⟩ := ho
  intro ws H locs ls rst hc hs hI
  obtain ⟨iR, iP, iD, iS, iL, w1, r1, rfl, e1, w2, r2, rfl, e2, iT⟩ := hI
  have e1 : w1 = .int y := e1
  have e2 : w2 = .int x := e2
  subst e1; subst e2
  have hsum : (r2.map fun v => v.category).sum ≤ 8 := by
    have := xm_st_sum iT
    unfold xm_sum at this hr
    omega
  exact va_mmax F.1.1 F.1.2.1 (by rw [F.1.2.2.1]; exact iL.1.symm) F.1.2.2.2.1 (F.1.2.2.2.2 _ hw1) (F.1.2.2.2.2 _ hw2) (F.1.2.2.2.2 _ hw3) (F.1.2.2.2.2 _ hw4) (by have := F.2.2.2.1.1; omega) (by have := F.2.2.2.1.2; omega) hc hs hd (hk ws H locs ls _ hc hs ⟨iR, iP, iD, iS, iL, _, _, rfl, rfl, iT⟩)
/-- what a call's run needs beside its words; what comes behind it -/
theorem xs_inv (F : xm_F p R s m args meth c M d D dA b B0 L xs) {Mj : xm_M} {as : List Value} {call : xm_K} (hM : ∀ (M' : xm_M) (as' : List Value) (h' : xm_H) (Q' : xm_Q), call M' as' h' Q' → xm_ok M' → xm_Met l d D dA b B0 L xs M' as' h' Q') (ok : xm_ok Mj) (ho : ∃ r, st = as.reverse ++ r ∧ xm_sum r ≤ 8 ∧ cn + xm_mc Mj ≤ xm_mc M ∧ sn + xm_ms Mj ≤ xm_ms M ∧ call Mj as h (fun v h' => xm_G p l e R s m args below meth c Qw D dA ad b B0 (xm_ml M) (pc + 3, lo, v.toList ++ r, h', cn + xm_mc Mj, sn + xm_ms Mj)))
    (run : ∀ (ws : va_W) (H : Heap) (locs : List Loc) (ls : Array Slot) (ras r1 : List Value), ls.size = xm_ml M → xm_R ad b dA h ws → va_P D vwCl ws H → xm_st (xm_ad ws) b as ras → PreS s H (va_Pc ras (fun U => xm_E D dA b B0 L xs U ∧ va_P D vwCl ws U.heap)) ras → (r1.map fun v => v.category).sum ≤ 8 → (cn + xm_mc Mj ≤ R.cells ∧ sn + xm_ms Mj ≤ R.slots) → (∀ (Qc : Array Value → State → Outcome → State → Prop), Met l (xm_y Mj) (xm_ws Mj) (xm_rm d Mj) (va_Pc ras (fun U => xm_E D dA b B0 L xs U ∧ va_P D vwCl ws U.heap)) Qc (xm_mc Mj) (xm_ms Mj) (xm_A B0) → va_Run p l e R s m args below meth c H locs cn sn (xm_mc Mj) (xm_ms Mj) (F0 m pc ls (ras.reverse ++ r1)) r1 (Qc ras.toArray) (xm_A B0))) : xm_G p l e R s m args below meth c Qw D dA ad b B0 (xm_ml M) (pc, lo, st, h, cn, sn) := by
  obtain ⟨r, rfl, hr, hcl, hsl, hcall⟩ := ho
  intro ws H locs ls rst hc hs hI
  obtain ⟨iR, iP, iD, iS, iL, iT⟩ := hI
  obtain ⟨w1, r1, rfl, iT1, iT2⟩ := xm_st_app iT
  have hras : xm_st (xm_ad ws) b as w1.reverse := by
    have := xm_st_rev iT1
    rw [List.reverse_reverse] at this
    exact this
  have hMet := hM _ _ _ _ hcall ok ws w1.reverse ⟨iR.1, iR.2.1, xm_ad ws, rfl⟩ iD hras
  have hsum : (r1.map fun v => v.category).sum ≤ 8 := by
    have := xm_st_sum iT2
    unfold xm_sum at this hr
    omega
  have hcs : cn + xm_mc Mj ≤ R.cells ∧ sn + xm_ms Mj ≤ R.slots := ⟨by rw [F.2.2.1.1]; exact hcl, by rw [F.2.2.1.2]; exact hsl⟩
  have hpre : PreS s H (va_Pc w1.reverse (fun U => xm_E D dA b B0 L xs U ∧ va_P D vwCl ws U.heap)) w1.reverse := ⟨xm_E_blind, fun U hU hW => ⟨rfl, xm_E_go F.2.1 iS hU hW, by rw [hU]; exact iP⟩⟩
  have hrun := run ws H locs ls w1.reverse r1 iL.1 iR iP hras hpre hsum hcs _ hMet
  rw [List.reverse_reverse] at hrun
  refine xs_run hrun iS (fun v w h1 ws1 H1 locs1 hov hq hR1 hP1 hD1 hS1 => ?_)
  obtain ⟨x, hx⟩ := hR1.2.2
  refine hq ws1 H1 locs1 ls _ hcs.1 hcs.2 ⟨xm_R_trans iR hR1, hP1, hD1, hS1, by rw [hx]; exact xm_l_mono x iL, ?_⟩
  have hrest : xm_st (xm_ad ws1) b r r1 := by rw [hx]; exact xm_st_mono x iT2
  cases v with
  | none =>
    have hov : w = none := hov
    subst hov
    exact hrest
  | some v =>
    obtain ⟨u, rfl, hu⟩ : ∃ u, w = some u ∧ xm_v (xm_ad ws1) b v u := hov
    exact ⟨u, r1, rfl, hu, hrest⟩
theorem xs_static {k : Nat} (F : xm_F p R s m args meth c M d D dA b B0 L xs) {Mj : xm_M} {as : List Value} {call : xm_K} (hM : ∀ (M' : xm_M) (as' : List Value) (h' : xm_H) (Q' : xm_Q), call M' as' h' Q' → xm_ok M' → xm_Met l d D dA b B0 L xs M' as' h' Q') (hd : decode (xm_by M) pc = .ok (.invokestatic k, len)) (hl : len = 3) (ok : xm_ok Mj) (hlk : xm_lk (xm_y M).cls k (xm_y Mj)) (hst : Cond.static (xm_y Mj) ∈ tb_all) (hnp : xm_np (xm_y Mj) as.length) (ho : ∃ r, st = as.reverse ++ r ∧ xm_sum r ≤ 8 ∧ cn + xm_mc Mj ≤ xm_mc M ∧ sn + xm_ms Mj ≤ xm_ms M ∧ call Mj as h (fun v h' => xm_G p l e R s m args below meth c Qw D dA ad b B0 (xm_ml M) (pc + 3, lo, v.toList ++ r, h', cn + xm_mc Mj, sn + xm_ms Mj))) : xm_G p l e R s m args below meth c Qw D dA ad b B0 (xm_ml M) (pc, lo, st, h, cn, sn) := by
  subst hl
  refine xs_inv F hM ok ho (fun ws H locs ls ras r1 hsz iR iP hras hpre hsum hcs Qc hMet => ?_)
  have hlen : ras.length = as.length := xm_st_len hras
  have hini := F.1.2.2.2.2 _ ok.2.1
  rcases hlk with hlk | ⟨host, hlk⟩
  · exact va_runS (n := as.length) F.1 hMet ⟨callB_of as.length F.1.2.2.2.2 (tb_good ok.1) rfl rfl rfl hini (F.1.2.2.2.2 _ hlk) ⟨ok.2.2.2.1.1, ok.2.2.2.1.2, hnp⟩ ⟨by show d + 1 ≤ R.frames; exact F.2.2.2.1.1, by show 8 + (xm_ml Mj + 11) + 48 * d ≤ R.locals; have h1 := F.2.2.2.1.2; have h2 : xm_ml Mj ≤ 29 := ok.2.2.2.2; omega⟩, F.1.2.2.2.2 _ hst⟩ hpre rfl hlen hsz rfl (lv_room hsum) hd hcs
  · exact va_runSN (n := as.length) F.1 hMet ⟨va_cnB as.length F.1.2.2.2.2 (tb_good ok.1) rfl rfl rfl (F.2.1.2.2.2.2.1 _ hlk) hini ⟨ok.2.2.2.1.1, ok.2.2.2.1.2, hnp⟩ ⟨by show d + 1 ≤ R.frames; exact F.2.2.2.1.1, by show 8 + (xm_ml Mj + 11) + 48 * d ≤ R.locals; have h1 := F.2.2.2.1.2; have h2 : xm_ml Mj ≤ 29 := ok.2.2.2.2; omega⟩, F.1.2.2.2.2 _ hst, trivial⟩ hpre rfl hlen hsz rfl (lv_room hsum) hd hcs
theorem xs_special {k a : Nat} (F : xm_F p R s m args meth c M d D dA b B0 L xs) {Mj : xm_M} {as : List Value} {call : xm_K} (hM : ∀ (M' : xm_M) (as' : List Value) (h' : xm_H) (Q' : xm_Q), call M' as' h' Q' → xm_ok M' → xm_Met l d D dA b B0 L xs M' as' h' Q') (hd : decode (xm_by M) pc = .ok (.invokespecial k, len)) (hl : len = 3) (ok : xm_ok Mj) (hrt : xm_rt Mj = none) (hlk : xm_lk (xm_y M).cls k (xm_y Mj)) (hnm : (xm_y Mj).name = "<init>") (hin : Cond.instanceMethod (xm_y Mj) ∈ tb_all) (hnp : xm_np (xm_y Mj) as.length) (ho : ∃ r, st = (Value.ref a :: as).reverse ++ r ∧ xm_sum r ≤ 8 ∧ cn + xm_mc Mj ≤ xm_mc M ∧ sn + xm_ms Mj ≤ xm_ms M ∧ call Mj (.ref a :: as) h (fun v h' => xm_G p l e R s m args below meth c Qw D dA ad b B0 (xm_ml M) (pc + 3, lo, v.toList ++ r, h', cn + xm_mc Mj, sn + xm_ms Mj))) : xm_G p l e R s m args below meth c Qw D dA ad b B0 (xm_ml M) (pc, lo, st, h, cn, sn) := by
  subst hl
  refine xs_inv F hM ok ho (fun ws H locs ls ras r1 hsz iR iP hras hpre hsum hcs Qc hMet => ?_)
  obtain ⟨w, ras, rfl, hw, hras⟩ : ∃ w r, ras = w :: r ∧ xm_v (xm_ad ws) b (.ref a) w ∧ xm_st (xm_ad ws) b as r := hras
  obtain ⟨q, e3, rfl⟩ : ∃ q, (xm_ad ws)[a]? = some q ∧ w = .ref q := hw
  have hlen : ras.length = as.length := xm_st_len hras
  have hini := F.1.2.2.2.2 _ ok.2.1
  have hcode := ok.1
  have hst0 : (Value.ref q :: ras).reverse ++ r1 = ras.reverse ++ .ref q :: r1 := by simp
  rw [hst0]
  obtain ⟨y, bytes, maxL, ret, mc, ms⟩ := Mj
  have hrt : ret = none := hrt
  subst hrt
  rcases hlk with hlk | ⟨host, hlk⟩
  · exact va_runI (n := as.length) F.1 hMet ⟨callB_of as.length F.1.2.2.2.2 (tb_good hcode) rfl rfl rfl hini (F.1.2.2.2.2 _ hlk) ⟨ok.2.2.2.1.1, ok.2.2.2.1.2, hnp⟩ ⟨by show d + 1 ≤ R.frames; exact F.2.2.2.1.1, by show 8 + (maxL + 11) + 48 * d ≤ R.locals; have h1 := F.2.2.2.1.2; have h2 : maxL ≤ 29 := ok.2.2.2.2; omega⟩, hnm, F.1.2.2.2.2 _ hin⟩ hpre rfl hlen hsz rfl (lv_room hsum) hd hcs
  · exact va_runIN (n := as.length) F.1 hMet ⟨va_cnB as.length F.1.2.2.2.2 (tb_good hcode) rfl rfl rfl (F.2.1.2.2.2.2.1 _ hlk) hini ⟨ok.2.2.2.1.1, ok.2.2.2.1.2, hnp⟩ ⟨by show d + 1 ≤ R.frames; exact F.2.2.2.1.1, by show 8 + (maxL + 11) + 48 * d ≤ R.locals; have h1 := F.2.2.2.1.2; have h2 : maxL ≤ 29 := ok.2.2.2.2; omega⟩, hnm, F.1.2.2.2.2 _ hin⟩ hpre rfl hlen hsz rfl (lv_room hsum) hd hcs
theorem xs_virtual {k a ci : Nat} {fs : List Value} {C : String} {T : u_T} {N : Nat} {ty : Nat → FieldType} (F : xm_F p R s m args meth c M d D dA b B0 L xs) {Mj : xm_M} {as : List Value} {call : xm_K} (hM : ∀ (M' : xm_M) (as' : List Value) (h' : xm_H) (Q' : xm_Q), call M' as' h' Q' → xm_ok M' → xm_Met l d D dA b B0 L xs M' as' h' Q') (hd : decode (xm_by M) pc = .ok (.invokevirtual k, len)) (hl : len = 3) (ok : xm_ok Mj) (hlk : xm_lk (xm_y M).cls k (xm_y Mj)) (hin : Cond.instanceMethod (xm_y Mj) ∈ tb_all) (hsel : Cond.selects (xm_y Mj).cls (xm_y Mj) (xm_y Mj) ∈ tb_all) (hnp : xm_np (xm_y Mj) as.length) (hcl : xm_cl ci C T N ty) (hC : C = (xm_y Mj).cls) (ha : h[a]? = some (.inr (ci, fs))) (ho : ∃ r, st = (Value.ref a :: as).reverse ++ r ∧ xm_sum r ≤ 8 ∧ cn + xm_mc Mj ≤ xm_mc M ∧ sn + xm_ms Mj ≤ xm_ms M ∧ call Mj (.ref a :: as) h (fun v h' => xm_G p l e R s m args below meth c Qw D dA ad b B0 (xm_ml M) (pc + 3, lo, v.toList ++ r, h', cn + xm_mc Mj, sn + xm_ms Mj))) : xm_G p l e R s m args below meth c Qw D dA ad b B0 (xm_ml M) (pc, lo, st, h, cn, sn) := by
  subst hl
  refine xs_inv F hM ok ho (fun ws H locs ls ras r1 hsz iR iP hras hpre hsum hcs Qc hMet => ?_)
  obtain ⟨w, ras, rfl, hw, hras⟩ : ∃ w r, ras = w :: r ∧ xm_v (xm_ad ws) b (.ref a) w ∧ xm_st (xm_ad ws) b as r := hras
  obtain ⟨q, e3, rfl⟩ : ∃ q, (xm_ad ws)[a]? = some q ∧ w = .ref q := hw
  obtain ⟨q2, ec, f1, f2, f3⟩ := xm_R_get iR ha
  obtain ⟨gs, rfl, hgs⟩ : ∃ gs, ec = .inr (ci, gs) ∧ xm_st (xm_ad ws) b fs gs := f3
  obtain rfl : q = q2 := Option.some.inj (e3.symm.trans f2)
  have hlen : ras.length = as.length := xm_st_len hras
  have hini := F.1.2.2.2.2 _ ok.2.1
  have hrecv := va_recv F.2.1.1 iP hcl.1 f1
  rw [show (C, T, N).1 = (xm_y Mj).cls from hC] at hrecv
  have hst0 : (Value.ref q :: ras).reverse ++ r1 = ras.reverse ++ .ref q :: r1 := by simp
  rw [hst0]
  have hpv : PreV s H (xm_y Mj).cls q (va_Pc (.ref q :: ras) (fun U => xm_E D dA b B0 L xs U ∧ va_P D vwCl ws U.heap)) ras := ⟨hpre.1, hrecv, hpre.2⟩
  rcases hlk with hlk | ⟨host, hlk⟩
  · exact va_runV (n := as.length) F.1 hMet ⟨callB_of as.length F.1.2.2.2.2 (tb_good ok.1) rfl rfl rfl hini (F.1.2.2.2.2 _ hlk) ⟨ok.2.2.2.1.1, ok.2.2.2.1.2, hnp⟩ ⟨by show d + 1 ≤ R.frames; exact F.2.2.2.1.1, by show 8 + (xm_ml Mj + 11) + 48 * d ≤ R.locals; have h1 := F.2.2.2.1.2; have h2 : xm_ml Mj ≤ 29 := ok.2.2.2.2; omega⟩, F.1.2.2.2.2 _ hin, F.1.2.2.2.2 _ hsel⟩ hpv rfl hlen hsz rfl (lv_room hsum) hd hcs
  · exact va_runVN (n := as.length) F.1 hMet ⟨va_cnB as.length F.1.2.2.2.2 (tb_good ok.1) rfl rfl rfl (F.2.1.2.2.2.2.1 _ hlk) hini ⟨ok.2.2.2.1.1, ok.2.2.2.1.2, hnp⟩ ⟨by show d + 1 ≤ R.frames; exact F.2.2.2.1.1, by show 8 + (xm_ml Mj + 11) + 48 * d ≤ R.locals; have h1 := F.2.2.2.1.2; have h2 : xm_ml Mj ≤ 29 := ok.2.2.2.2; omega⟩, F.1.2.2.2.2 _ hin, F.1.2.2.2.2 _ hsel⟩ hpv rfl hlen hsz rfl (lv_room hsum) hd hcs
end XS
end
section
/-! An int[9][9] is made (multianewarray): the outer row, then the nine inner ones, each put into its place as it comes. -/
def xg_o (cA : ClassId) (z i : Nat) : Cell := arrV cA 9 (fun j => if j < i then .ref (z + 1 + j) else .null)
def xg_i (cI : ClassId) : Cell := arrV cI 9 (fun _ => .int 0)
def xg_s (T : State) (cA cI : ClassId) : Nat → State
  | 0 => T.pushCell (xg_o cA T.heap.size 0)
  | i + 1 => ((xg_s T cA cI i).pushCell (xg_i cI)).setCell T.heap.size (xg_o cA T.heap.size (i + 1))
theorem xg_o_set (cA : ClassId) (z i : Nat) : (xg_o cA z i).setSlot i (.ref (z + 1 + i)) = xg_o cA z (i + 1) := by
  unfold xg_o
  rw [arrV_store]
  congr 1
  funext j
  unfold updV
  by_cases h : j = i
  · subst h
    rw [if_pos rfl, if_pos (Nat.lt_succ_self _)]
  · rw [if_neg h]
    dsimp only
    by_cases h2 : j < i
    · rw [if_pos h2, if_pos (by omega)]
    · rw [if_neg h2, if_neg (by omega)]
theorem xg_o_size (cA : ClassId) (z i : Nat) : (xg_o cA z i).slots.size = 9 := arrV_size _ _ _
theorem xg_i_size (cI : ClassId) : (xg_i cI).slots.size = 9 := arrV_size _ _ _
theorem xg_fact (T : State) (cA cI : ClassId) : ∀ i, (xg_s T cA cI i).heap.size = T.heap.size + 1 + i ∧ (xg_s T cA cI i).heap[T.heap.size]? = some (xg_o cA T.heap.size i) ∧ (xg_s T cA cI i).vm = T.vm ∧ (xg_s T cA cI i).slotsUsed = T.slotsUsed + 9 + 9 * i ∧
    (∀ q, q < T.heap.size → (xg_s T cA cI i).heap[q]? = T.heap[q]?) ∧ (∀ j, j < i → (xg_s T cA cI i).heap[T.heap.size + 1 + j]? = some (xg_i cI))
  | 0 => by
    refine ⟨size_pushCell _ _, State.heap_pushCell_size _ _, rfl, ?_, fun q hq => State.heap_pushCell_of_lt _ _ hq, fun j hj => absurd hj (Nat.not_lt_zero _)⟩
    show T.slotsUsed + (xg_o cA T.heap.size 0).slots.size = _
    rw [xg_o_size]
  | i + 1 => by
    obtain ⟨f1, f2, f3, f4, f5, f6⟩ := xg_fact T cA cI i
    have hz : T.heap.size < (xg_s T cA cI i).heap.size := by omega
    have hz2 : ((xg_s T cA cI i).pushCell (xg_i cI)).heap[T.heap.size]? = some (xg_o cA T.heap.size i) := by rw [State.heap_pushCell_of_lt _ _ hz]; exact f2
    refine ⟨?_, State.heap_setCell_self hz2, f3, ?_, fun q hq => ?_, fun j hj => ?_⟩
    · show (((xg_s T cA cI i).pushCell (xg_i cI)).setCell _ _).heap.size = _
      rw [size_setCell, size_pushCell, f1]
      omega
    · show (xg_s T cA cI i).slotsUsed + (xg_i cI).slots.size = _
      rw [xg_i_size, f4]
      omega
    · show (((xg_s T cA cI i).pushCell (xg_i cI)).setCell _ _).heap[q]? = _
      rw [State.heap_setCell_other (Nat.ne_of_gt hq), State.heap_pushCell_of_lt _ _ (show q < (xg_s T cA cI i).heap.size by omega)]
      exact f5 q hq
    · show (((xg_s T cA cI i).pushCell (xg_i cI)).setCell _ _).heap[_]? = _
      rw [State.heap_setCell_other (show T.heap.size ≠ T.heap.size + 1 + j by omega)]
      by_cases hji : j = i
      · subst hji
        rw [← f1]
        exact State.heap_pushCell_size _ _
      · rw [State.heap_pushCell_of_lt _ _ (show T.heap.size + 1 + j < (xg_s T cA cI i).heap.size by omega)]
        exact f6 j (by omega)
theorem xg_top (T : State) (g : JFrame) (cA cI : ClassId) : ∀ i, xg_s (T.setTop g) cA cI i = (xg_s T cA cI i).setTop g
  | 0 => rfl
  | i + 1 => by
    unfold xg_s
    rw [xg_top T g cA cI i]
    rfl
section XG
variable {p : Program} {l : Launch} {e : Env} {R : Room} {s : State} {m : MethodId} {args : Array Value} {below : List Frame} {meth : Method} {c : Code} {T : State} {locs : List Loc} {cells slots : Nat}
theorem xg_stand (X : Stand p l e R s m args below meth c T locs cells slots) (cA cI : ClassId) : ∀ i, ∃ L : List Loc, (∀ q ∈ L, q.base = T.heap.size) ∧ Stand p l e R s m args below meth c (xg_s T cA cI i) (locs ++ L) (cells + 1 + i) (slots + 9 + 9 * i)
  | 0 => by
    have h := X.pushed (xg_o cA T.heap.size 0)
    rw [xg_o_size] at h
    exact ⟨[], fun q hq => (by cases hq), by rw [List.append_nil]; exact h⟩
  | i + 1 => by
    obtain ⟨L, hL, Xi⟩ := xg_stand X cA cI i
    obtain ⟨f1, f2, -⟩ := xg_fact T cA cI i
    have hz : T.heap.size < (xg_s T cA cI i).heap.size := by omega
    have hz2 : ((xg_s T cA cI i).pushCell (xg_i cI)).heap[T.heap.size]? = some (xg_o cA T.heap.size i) := by rw [State.heap_pushCell_of_lt _ _ hz]; exact f2
    have h := (Xi.pushed (xg_i cI)).stored hz2 i (.ref (T.heap.size + 1 + i))
    rw [xg_i_size, xg_o_set, List.append_assoc] at h
    refine ⟨L ++ [⟨T.heap.size, i⟩], fun q hq => ?_, ?_⟩
    · rcases List.mem_append.mp hq with h | h
      · exact hL q h
      · rw [List.mem_singleton] at h
        rw [h]
    · have e1 : slots + 9 + 9 * (i + 1) = slots + 9 + 9 * i + 9 := by omega
      rw [e1]
      exact h
end XG
section XH
variable {E : CtlPost} {e : Env} {d : Bool} {acts : List Action} {s : State}
theorem xg_make1 {cI pI : ClassId} {kI : Class} {Q : Addr → Pre} (hk : s.vm.classes[cI]? = some kI) (hkind : kI.kind = .array pI .int) (hlim : ¬ 9 > e.platform.arrayLengthLimit) (hmem : ¬ 9 * componentBytes .int > e.platform.maxHeapBytes)
    (hc : s.heap.size < e.platform.maxCells) (hs : s.slotsUsed + 9 ≤ e.platform.maxSlots) (hq : ∀ acts', Q s.heap.size d acts' (s.pushCell (xg_i cI))) : wp (multianewarray.make cI [9]) Q E e d acts s := by
  rw [multianewarray.make]
  have h9 : ¬ (9 : Int32) < 0 := by decide
  have hc9 : (9 : Int32).toNatClampNeg = 9 := by decide
  simp only [wp_bind', W.ite, h9, if_false, wp_pure', W.theClass, hk, hkind, Option.some.injEq, exists_eq_left', hc9]
  refine W.newArray_of hk hkind hlim hmem hc hs rfl (fun acts' => ?_)
  have e1 : ({ cls := cI, slots := Array.replicate 9 (defaultValue .int) } : Cell) = xg_i cI := arrV_new cI 9 (.int 0)
  rw [e1]
  exact hq acts'
theorem xg_make2 {cA cI pI : ClassId} {kA kI : Class} {Q : Addr → Pre} (hkA : s.vm.classes[cA]? = some kA) (hkindA : kA.kind = .array cI (.array .int)) (hk : s.vm.classes[cI]? = some kI) (hkind : kI.kind = .array pI .int) (hlim : ¬ 9 > e.platform.arrayLengthLimit)
    (hmem : ¬ 9 * 4 > e.platform.maxHeapBytes) (hc : s.heap.size + 10 ≤ e.platform.maxCells) (hs : s.slotsUsed + 90 ≤ e.platform.maxSlots) (hq : ∀ d' acts', Q s.heap.size d' acts' (xg_s s cA cI 9)) : wp (multianewarray.make cA [9, 9]) Q E e d acts s := by
  rw [multianewarray.make]
  have h9 : ¬ (9 : Int32) < 0 := by decide
  have hc9 : (9 : Int32).toNatClampNeg = 9 := by decide
  have hfind : ([(9 : Int32)].find? (· < 0)) = none := by decide
  simp only [wp_bind', W.ite, h9, if_false, wp_pure', W.theClass, hkA, hkindA, Option.some.injEq, exists_eq_left', hc9]
  refine W.newArray_of hkA hkindA hlim hmem (by omega) (by omega) rfl (fun acts' => ?_)
  have e1 : ({ cls := cA, slots := Array.replicate 9 .null } : Cell) = xg_o cA s.heap.size 0 := by
    rw [show ({ cls := cA, slots := Array.replicate 9 .null } : Cell) = arrV cA 9 (fun _ => .null) from arrV_new cA 9 .null]
    rfl
  rw [e1]
  simp only [hfind]
  rw [ite_self, wp_bind', Std.Legacy.Range.forIn_eq_forIn_range']
  have hsz : ([:9] : Std.Legacy.Range).size = 9 := by simp [Std.Legacy.Range.size]
  rw [hsz]
  show wp (forIn (List.range' 0 9 1) PUnit.unit _) _ E e d acts' _
  refine wp_forIn_inv (fun rest s' => ∃ i, i ≤ 9 ∧ rest = List.range' i (9 - i) ∧ s' = xg_s s cA cI i) _ _ ⟨0, Nat.zero_le _, rfl, rfl⟩ ?_ ?_
  · rintro x rest s' d' acts2 Q' ⟨i, hi, hl, rfl⟩ hnext
    have hlt : i < 9 := by
      rcases Nat.lt_or_ge i 9 with h | h
      · exact h
      · rw [show 9 - i = 0 by omega] at hl
        cases hl
    rw [show 9 - i = (9 - (i + 1)) + 1 by omega, List.range'_succ] at hl
    obtain ⟨rfl, hrest⟩ : x = i ∧ rest = List.range' (i + 1) (9 - (i + 1)) := ⟨(List.cons.inj hl).1, (List.cons.inj hl).2⟩
    obtain ⟨f1, f2, f3, f4, f5, f6⟩ := xg_fact s cA cI x
    simp only [wp_bind']
    refine xg_make1 (by rw [f3]; exact hk) hkind hlim hmem (by omega) (by omega) (fun acts3 => ?_)
    have hz : s.heap.size < (xg_s s cA cI x).heap.size := by omega
    simp only [wp_bind', W.writeLoc, wp_pure']
    refine ⟨xg_o cA s.heap.size x, by rw [State.heap_pushCell_of_lt _ _ hz]; exact f2, (fun h => by cases h), by rw [xg_o_size]; exact hlt, ?_, hnext _ _ _ ⟨x + 1, hlt, hrest, ?_⟩⟩
    · show ((xg_s s cA cI x).pushCell (xg_i cI)).fitsSlot cA .none x _ = true
      simp [State.fitsSlot, State.slotType?, f3, hkA, hkindA, fits]
    · rw [f1, xg_o_set]
      rfl
  · rintro s' d' acts2 ⟨i, hi, hl, rfl⟩
    have hi9 : i = 9 := by
      rcases Nat.lt_or_ge i 9 with h | h
      · rw [show 9 - i = (9 - (i + 1)) + 1 by omega, List.range'_succ] at hl
        cases hl
      · omega
    subst hi9
    simp only [wp_pure']
    exact hq _ _
end XH
section XI
variable {p : Program} {l : Launch} {e : Env} {R : Room} {s : State} {m : MethodId} {args : Array Value} {below : List Frame} {meth : Method} {c : Code} {H : Heap} {locs : List Loc} {cells slots : Nat} {Q : State → Prop}
theorem xg_W {cc : ByteArray} (hexec : p.tables.exec = Jvm.exec) (hb : c.code = cc) {own : String} {index : Nat} (hown : s.vm.findClass own = some m.cls) (hclink : (Cond.classLink own index "[[I").before args s = true)
    {cA cI pI : ClassId} {kA kI : Class} (hfA : s.vm.findClass "[[I" = some cA) (hkA : s.vm.classes[cA]? = some kA) (hkindA : kA.kind = .array cI (.array .int)) (hkI : s.vm.classes[cI]? = some kI) (hkind : kI.kind = .array pI .int)
    {pc : Nat} {ls : Array Slot} {rest : List Value} (hdg : decode cc pc = .ok (.multianewarray index 2, 4)) (hcells : cells + 10 ≤ R.cells) (hslots : slots + 90 ≤ R.slots)
    (kk : ∀ (H1 : Heap) (L : List Loc), (∀ q ∈ L, q.base = H.size) → H1.size = H.size + 10 → H1[H.size]? = some (xg_o cA H.size 9) → (∀ q, q < H.size → H1[q]? = H[q]?) → (∀ j, j < 9 → H1[H.size + 1 + j]? = some (xg_i cI)) →
      W p l e R s m args below meth c H1 (locs ++ L) (cells + 10) (slots + 90) Q (F0 m (pc + 4) ls (.ref H.size :: rest))) : W p l e R s m args below meth c H locs cells slots Q (F0 m pc ls (.int 9 :: .int 9 :: rest)) := by
  intro T hT X
  subst hT; subst hb
  have hpl : e.platform.magicAccessors = ({} : Platform).magicAccessors := by rw [X.admits.platform]
  obtain ⟨c0, hfc0, hcl⟩ := Cond.classLink_spec hown hclink e.platform hpl
  cases hfA.symm.trans hfc0
  obtain ⟨hg₁, hwarm₁, hready₁⟩ := State.classEntry (e := e) X.warmed hcl
  generalize T.vm.noted m.cls index (.cls cA) = vm₁ at hg₁ hwarm₁ hready₁
  have hal : s.vm.Alike vm₁ := hwarm₁.alike
  obtain ⟨kA₁, hkA₁, heA⟩ := hal.2.2 _ _ hkA
  obtain ⟨kI₁, hkI₁, heI⟩ := hal.2.2 _ _ hkI
  have hkindA₁ : kA₁.kind = .array cI (.array .int) := by rw [heA]; exact hkindA
  have hkind₁ : kI₁.kind = .array pI .int := by rw [heI]; exact hkind
  have X₁ := X.noted hwarm₁
  obtain ⟨hr1, hr2⟩ := X.roomAbove hcells hslots
  obtain ⟨L, hL, XF⟩ := xg_stand X₁ cA cI 9
  obtain ⟨f1, f2, f3, f4, f5, f6⟩ := xg_fact (T.setVm vm₁) cA cI 9
  obtain ⟨t, a1, b1⟩ := kk (xg_s (T.setVm vm₁) cA cI 9).heap L hL f1 f2 f5 f6 _ rfl XF
  refine ⟨t, ?_, b1⟩
  have hlim : ¬ 9 > e.platform.arrayLengthLimit := by rw [Launch.admits_arrayLengthLimit X.admits]; omega
  have hmem : ¬ 9 * 4 > e.platform.maxHeapBytes := by rw [Launch.admits_maxHeapBytes X.admits]; omega
  jvm_step X.here [hexec, hdg]
  simp only [multianewarray.sem, wp_bind', W.resolveClassAt_links (State.method?_setTop (F0 m pc ls (.int 9 :: .int 9 :: rest)) X.here.top) hg₁]
  rw [W.popN, if_neg (by decide)]
  refine ⟨_, State.topJava?_setTop' (s := T.setVm vm₁) _ X.here.top, [.int 9, .int 9], rest, rfl, rfl, ?_⟩
  simp only [List.mapM_cons, List.mapM_nil, wp_bind', wp_pure']
  refine xg_make2 (kA := kA₁) (kI := kI₁) hkA₁ hkindA₁ hkI₁ hkind₁ hlim hmem (by show T.heap.size + 10 ≤ _; omega) (by show T.slotsUsed + 90 ≤ _; omega) (fun d' acts' => ?_)
  have eS : ∀ g g2 : JFrame, ((T.setTop g).setVm vm₁).setTop g2 = (T.setVm vm₁).setTop g2 := fun g g2 => by
    show ((T.setVm vm₁).setTop g).setTop g2 = _
    rw [State.setTop_setTop]
  rw [eS, xg_top]
  simp only [wp_bind', W.mark, W.pushRef, State.topJava?_setTop' _ XF.here.top, Option.some.injEq, exists_eq_left', State.setTop_setTop, State.heap_setTop]
  intro acts
  simp [jvm, XF.here.top]
  exact a1
end XI
theorem xm_R_app {ad : List Nat} {b : Nat} {dA : FieldType → ClassId} {h cs : xm_H} {ws qs : va_W} (hR : xm_R ad b dA h ws) (hl : qs.length = cs.length) (hc : ∀ (k : Nat) (v : xm_C) (q : Nat × va_E), cs[k]? = some v → qs[k]? = some q → xm_c (xm_ad ws ++ xm_ad qs) b dA v q.2) : xm_R ad b dA (h ++ cs) (ws ++ qs) := by
  have e1 : xm_ad (ws ++ qs) = xm_ad ws ++ xm_ad qs := by simp [xm_ad]
  refine ⟨by rw [List.length_append, List.length_append, hR.1, hl], fun j u x hj hx => ?_, by obtain ⟨x, hx⟩ := hR.2.2; exact ⟨x ++ xm_ad qs, by rw [e1, hx, List.append_assoc]⟩⟩
  rw [e1]
  by_cases hl : j < h.length
  · rw [List.getElem?_append_left hl] at hj
    rw [List.getElem?_append_left (by rw [hR.1]; exact hl)] at hx
    exact xm_c_mono _ (hR.2.1 j u x hj hx)
  · rw [List.getElem?_append_right (by omega)] at hj
    rw [List.getElem?_append_right (by rw [hR.1]; omega), hR.1] at hx
    exact hc _ u x hj hx
section XJ
variable {p : Program} {l : Launch} {e : Env} {R : Room} {s : State} {m : MethodId} {args : Array Value} {below : List Frame} {meth : Method} {c : Code} {Qw : State → Prop} {M : xm_M} {d : Nat} {D : va_G} {dA : FieldType → ClassId} {ad : List Nat} {b B0 L : Nat} {xs : Nat → Int32}
variable {len pc : Nat} {lo st : List Value} {h : xm_H} {cn sn : Nat}
theorem xs_multi {k d0 : Nat} (F : xm_F p R s m args meth c M d D dA b B0 L xs) (hd : decode (xm_by M) pc = .ok (.multianewarray k d0, len))
    (ho : len = 4 ∧ ∃ r, d0 = 2 ∧ Cond.classLink (xm_y M).cls k "[[I" ∈ tb_all ∧ st = .int 9 :: .int 9 :: r ∧ cn + 10 ≤ xm_mc M ∧ sn + 90 ≤ xm_ms M ∧ xm_G p l e R s m args below meth c Qw D dA ad b B0 (xm_ml M) (pc + 4, lo, .ref h.length :: r, h ++ .inl (.array .int, 9, .inr (.inr (.inr (.inr (fun j => some (h.length + 1 + j)))))) :: List.replicate 9 (.inl (.int, 9, .inl (fun _ => 0))), cn + 10, sn + 90)) :
    xm_G p l e R s m args below meth c Qw D dA ad b B0 (xm_ml M) (pc, lo, st, h, cn, sn) := by
  obtain ⟨rfl, r, rfl, hw, rfl, hcl, hsl, hk⟩ := ho
  intro ws H locs ls rst hc hs hI
  obtain ⟨iR, iP, iD, iS, iL, w1, r1, rfl, e1, w2, r2, rfl, e2, iT⟩ := hI
  have e1 : w1 = .int 9 := e1
  have e2 : w2 = .int 9 := e2
  subst e1; subst e2
  have E := F.2.1
  obtain ⟨kA, hkA, hkindA⟩ := E.2.2.2.2.2.2
  have hfA : s.vm.findClass "[[I" = some (dA (.array .int)) := (E.1.2 2 (dA (.array .int), .array .int) rfl).2
  obtain ⟨-, kI, hkI, pI, hkind⟩ := (E.1.2 0 (dA .int, .int) rfl).1 0 (fun _ => .int 0)
  have hcl' : cn + 10 ≤ R.cells := by rw [F.2.2.1.1]; exact hcl
  have hsl' : sn + 90 ≤ R.slots := by rw [F.2.2.1.2]; exact hsl
  refine xg_W F.1.1 F.1.2.1 F.1.2.2.2.1 (F.1.2.2.2.2 _ hw) hfA hkA hkindA hkI hkind hd hcl' hsl' (fun H1 L1 hL1 z1 g1 g2 g3 => ?_)
  have hnew : ∀ q, H.size ≤ q → xm_A B0 q := fun q hq => Nat.le_trans E.2.2.2.1 (Nat.le_trans iS.1 hq)
  have hlen9 : ∀ k, k < 10 → ((H.size, (.inl (dA (.array .int), 9, .inr (.inr (.inr (.inr (fun j => some (H.size + 1 + j)))))) : va_E)) :: (List.range 9).map (fun j => (H.size + 1 + j, (.inl (dA .int, 9, .inl (fun _ => 0)) : va_E))))[k]? = some (H.size + k, if k = 0 then .inl (dA (.array .int), 9, .inr (.inr (.inr (.inr (fun j => some (H.size + 1 + j)))))) else .inl (dA .int, 9, .inl (fun _ => 0))) := by
    intro k hk
    cases k with
    | zero => rfl
    | succ k =>
      rw [List.getElem?_cons_succ, List.getElem?_map, List.getElem?_range (by omega)]
      simp
      omega
  generalize hqs : ((H.size, (.inl (dA (.array .int), 9, .inr (.inr (.inr (.inr (fun j => some (H.size + 1 + j)))))) : va_E)) :: (List.range 9).map (fun j => (H.size + 1 + j, (.inl (dA .int, 9, .inl (fun _ => 0)) : va_E)))) = qs at hlen9
  have hql : qs.length = 10 := by rw [← hqs]; rfl
  have hqk : ∀ (k : Nat) (q : Nat × va_E), qs[k]? = some q → k < 10 ∧ q = (H.size + k, if k = 0 then .inl (dA (.array .int), 9, .inr (.inr (.inr (.inr (fun j => some (H.size + 1 + j)))))) else .inl (dA .int, 9, .inl (fun _ => 0))) := fun k q hq => by
    have hk10 : k < 10 := by rw [← hql]; exact (List.getElem?_eq_some_iff.mp hq).1
    exact ⟨hk10, Option.some.inj (hq.symm.trans (hlen9 k hk10))⟩
  have hadq : ∀ k, k < 10 → (xm_ad ws ++ xm_ad qs)[h.length + k]? = some (H.size + k) := fun k hk => by
    rw [List.getElem?_append_right (by simp [iR.1]), List.length_map, iR.1, Nat.add_sub_cancel_left, List.getElem?_map, hlen9 k hk]
    rfl
  have hP1 : va_P D vwCl (ws ++ qs) H1 := by
    refine (iP.kept (fun k q hq => g2 q.1 ((iP k q hq).lt))).app (fun k q hq => ?_)
    obtain ⟨hk10, rfl⟩ := hqk k q hq
    cases k with
    | zero =>
      show H1[H.size]? = some (vp_cell _ _)
      rw [g1, vp_cell_q]
      refine congrArg some ?_
      unfold xg_o
      show arrV _ 9 _ = arrV _ 9 _
      unfold arrV
      congr 1
    | succ k =>
      show H1[H.size + (k + 1)]? = some (vp_cell (dA .int) (9, .inl (fun _ => 0)))
      rw [show H.size + (k + 1) = H.size + 1 + k by omega, g3 k (by omega)]
      rfl
  have hD1 : va_D (xm_A B0) (ws ++ qs) := by
    refine va_D.app iD ⟨fun i j x y hx hy hxy => ?_, fun k q hq => ?_⟩ (fun i j x y hx hy hxy => ?_)
    · obtain ⟨-, rfl⟩ := hqk i x hx
      obtain ⟨-, rfl⟩ := hqk j y hy
      have hxy : H.size + i = H.size + j := hxy
      omega
    · obtain ⟨-, rfl⟩ := hqk k q hq
      exact hnew _ (Nat.le_add_right _ _)
    · obtain ⟨-, rfl⟩ := hqk j y hy
      have h1 := (iP i x hx).lt
      have hxy : x.1 = H.size + j := hxy
      omega
  have hS1 : va_S (xm_A B0) s.heap H1 (locs ++ L1) := by
    refine ⟨by have := iS.1; omega, fun q h1 h2 => (g2 q (Nat.lt_of_lt_of_le h1 iS.1)).trans (iS.2.1 q h1 h2), fun q hq => ?_⟩
    rcases List.mem_append.mp hq with h | h
    · exact iS.2.2 q h
    · rw [hL1 q h]
      exact hnew _ (Nat.le_refl _)
  have hR1 : xm_R ad b dA (h ++ .inl (.array .int, 9, .inr (.inr (.inr (.inr (fun j => some (h.length + 1 + j)))))) :: List.replicate 9 (.inl (.int, 9, .inl (fun _ => 0)))) (ws ++ qs) := by
    refine xm_R_app iR (by rw [hql]; rfl) (fun k v q hv hq => ?_)
    obtain ⟨hk10, rfl⟩ := hqk k q hq
    cases k with
    | zero =>
      cases hv
      refine ⟨_, rfl, fun j hj => ⟨H.size + 1 + j, ?_, rfl⟩⟩
      rw [Nat.add_assoc, hadq (1 + j) (by omega), Nat.add_assoc]
    | succ k =>
      rw [List.getElem?_cons_succ] at hv
      have hv := List.eq_of_mem_replicate (List.mem_of_getElem? hv)
      subst hv
      rfl
  have e3 : xm_ad (ws ++ qs) = xm_ad ws ++ xm_ad qs := by simp [xm_ad]
  refine hk _ H1 _ ls _ hcl' hsl' ⟨hR1, hP1, hD1, hS1, ?_, _, _, rfl, ⟨H.size, ?_, rfl⟩, ?_⟩
  · show xm_l (xm_ad _) b _ lo ls
    rw [e3]
    exact xm_l_mono _ iL
  · show (xm_ad _)[h.length]? = some H.size
    rw [e3]
    have := hadq 0 (by omega)
    rw [Nat.add_zero, Nat.add_zero] at this
    exact this
  · show xm_st (xm_ad _) b r _
    rw [e3]
    exact xm_st_mono _ iT
end XJ
end
section
/-! The steps together; a method's contract out of its small machine. (Printed by gen_close.py.) -/
section XC
variable {p : Program} {l : Launch} {e : Env} {R : Room} {s : State} {m : MethodId} {args : Array Value} {below : List Frame} {meth : Method} {c : Code} {Qw : State → Prop} {M : xm_M} {d : Nat} {D : va_G} {dA : FieldType → ClassId} {ad : List Nat} {b B0 L : Nat} {xs : Nat → Int32}
set_option maxHeartbeats 4000000 in
set_option maxRecDepth 100000 in
theorem xs_cls (F : xm_F p R s m args meth c M d D dA b B0 L xs) (hM : ∀ (M' : xm_M) (as' : List Value) (h' : xm_H) (Q' : xm_Q), xm_call L xs d M' as' h' Q' → xm_ok M' → xm_Met l d D dA b B0 L xs M' as' h' Q') {Q : xm_Q}
    (hret : ∀ (i : Instr) (len pc : Nat) (lo st : List Value) (h : xm_H) (cn sn : Nat), (i = .ireturn ∨ i = .lreturn ∨ i = .return_) → decode (xm_by M) pc = .ok (i, len) → xm_op L xs (xm_call L xs d) M i len pc lo st h cn sn (xm_G p l e R s m args below meth c Qw D dA ad b B0 (xm_ml M)) Q → xm_G p l e R s m args below meth c Qw D dA ad b B0 (xm_ml M) (pc, lo, st, h, cn, sn)) :
    xm_cls L xs (xm_call L xs d) M Q (xm_G p l e R s m args below meth c Qw D dA ad b B0 (xm_ml M)) := by
  intro pc lo st h cn sn i len hd ho
  cases i with
  | iconst n => exact xs_iconst F hd ho
  | bipush n => exact xs_bipush F hd ho
  | sipush n => exact xs_sipush F hd ho
  | lconst n => exact xs_lconst F hd ho
  | ldc2_w k => exact xs_ldc2_w F hd ho
  | iload_n n => exact xs_iload_n F hd ho
  | iload n => exact xs_iload F hd ho
  | lload_n n => exact xs_lload_n F hd ho
  | lload n => exact xs_lload F hd ho
  | aload_n n => exact xs_aload_n F hd ho
  | aload n => exact xs_aload F hd ho
  | istore_n n => exact xs_istore_n F hd ho
  | istore n => exact xs_istore F hd ho
  | lstore_n n => exact xs_lstore_n F hd ho
  | lstore n => exact xs_lstore F hd ho
  | astore_n n => exact xs_astore_n F hd ho
  | astore n => exact xs_astore F hd ho
  | iinc n k => exact xs_iinc F hd ho
  | iadd => exact xs_iadd F hd ho
  | isub => exact xs_isub F hd ho
  | imul => exact xs_imul F hd ho
  | iand => exact xs_iand F hd ho
  | ladd => exact xs_ladd F hd ho
  | lsub => exact xs_lsub F hd ho
  | land => exact xs_land F hd ho
  | lor => exact xs_lor F hd ho
  | lxor => exact xs_lxor F hd ho
  | lshl => exact xs_lshl F hd ho
  | lshr => exact xs_lshr F hd ho
  | lushr => exact xs_lushr F hd ho
  | i2l => exact xs_i2l F hd ho
  | l2i => exact xs_l2i F hd ho
  | lcmp => exact xs_lcmp F hd ho
  | dup => exact xs_dup F hd ho
  | pop => exact xs_pop F hd ho
  | goto off => exact xs_goto F hd ho
  | tableswitch d0 l0 h0 offs => exact xs_tableswitch F hd ho
  | arraylength => exact xs_arraylength F hd ho
  | iaload => exact xs_iaload F hd ho
  | laload => exact xs_laload F hd ho
  | aaload => exact xs_aaload F hd ho
  | iastore => exact xs_iastore F hd ho
  | lastore => exact xs_lastore F hd ho
  | aastore => exact xs_aastore F hd ho
  | getfield k => exact xs_getfield F hd ho
  | putfield k => exact xs_putfield F hd ho
  | anewarray k => exact xs_anewarray F hd ho
  | new k => exact xs_new F hd ho
  | ifCond o off =>
    obtain ⟨h1, t, x, r, h2, h3, h4⟩ := ho
    cases o with
    | eq => exact xs_ifeq F hd ⟨h1, t, x, r, h2, h3, h4⟩
    | ne => exact xs_ifne F hd ⟨h1, t, x, r, h2, h3, h4⟩
    | lt => exact xs_iflt F hd ⟨h1, t, x, r, h2, h3, h4⟩
    | ge => exact xs_ifge F hd ⟨h1, t, x, r, h2, h3, h4⟩
    | gt => exact xs_ifgt F hd ⟨h1, t, x, r, h2, h3, h4⟩
    | le => exact xs_ifle F hd ⟨h1, t, x, r, h2, h3, h4⟩
  | if_icmp o off =>
    obtain ⟨h1, t, x, y, r, h2, h3, h4⟩ := ho
    cases o with
    | eq => exact xs_icmpeq F hd ⟨h1, t, x, y, r, h2, h3, h4⟩
    | ne => exact xs_icmpne F hd ⟨h1, t, x, y, r, h2, h3, h4⟩
    | lt => exact xs_icmplt F hd ⟨h1, t, x, y, r, h2, h3, h4⟩
    | ge => exact xs_icmpge F hd ⟨h1, t, x, y, r, h2, h3, h4⟩
    | gt => exact xs_icmpgt F hd ⟨h1, t, x, y, r, h2, h3, h4⟩
    | le => exact xs_icmple F hd ⟨h1, t, x, y, r, h2, h3, h4⟩
  | newarray ty =>
    obtain ⟨h1, n, r, h2, h3, h4, h5, h6, h7⟩ := ho
    cases ty with
    | int => exact xs_newarray_int F hd ⟨h1, n, r, h2, h3, h4, h5, h6, h7⟩
    | long => exact xs_newarray_long F hd ⟨h1, n, r, h2, h3, h4, h5, h6, h7⟩
    | _ => exact False.elim h7
  | multianewarray k d0 => exact xs_multi F hd ho
  | invokestatic k =>
    obtain ⟨h1, ho⟩ := ho
    rcases ho with ⟨h2, h3⟩ | ⟨Mj, as, ok, hlk, hst, hnp, ho⟩
    · exact xs_mmax F hd ⟨h1, h2, h3⟩
    · exact xs_static F hM hd h1 ok hlk hst hnp ho
  | invokevirtual k =>
    obtain ⟨h1, Mj, as, a, ci, fs, C, T, N, ty, ok, hlk, hin, hsel, hnp, hcl, hC, ha, ho⟩ := ho
    exact xs_virtual F hM hd h1 ok hlk hin hsel hnp hcl hC ha ho
  | invokespecial k =>
    obtain ⟨h1, ho⟩ := ho
    rcases ho with ⟨h2, h3⟩ | ⟨Mj, as, a, ok, hrt, hlk, hnm, hin, hnp, ho⟩
    · exact xs_objInit F hd ⟨h1, h2, h3⟩
    · exact xs_special F hM hd h1 ok hrt hlk hnm hin hnp ho
  | ireturn => exact hret _ _ _ _ _ _ _ _ (Or.inl rfl) hd ho
  | lreturn => exact hret _ _ _ _ _ _ _ _ (Or.inr (Or.inl rfl)) hd ho
  | return_ => exact hret _ _ _ _ _ _ _ _ (Or.inr (Or.inr rfl)) hd ho
  | _ => exact False.elim ho
end XC
section XD
variable {p : Program} {l : Launch} {e : Env} {R : Room} {s : State} {m : MethodId} {args : Array Value} {below : List Frame} {meth : Method} {c : Code} {M : xm_M} {d : Nat} {D : va_G} {dA : FieldType → ClassId} {ad : List Nat} {b B0 L : Nat} {xs : Nat → Int32}
/-- a method's own returns -/
theorem xs_ret_met (F : xm_F p R s m args meth c M d D dA b B0 L xs) (hr : meth.sig.returnType = xm_rt M) (hlocks : meth.locks = false) {Q : xm_Q} {call : xm_K} (i : Instr) (len pc : Nat) (lo st : List Value) (h : xm_H) (cn sn : Nat) (hi : i = .ireturn ∨ i = .lreturn ∨ i = .return_) (hd : decode (xm_by M) pc = .ok (i, len))
    (ho : xm_op L xs call M i len pc lo st h cn sn (xm_G p l e R s m args below meth c (MQ below (xm_Qc D dA b B0 ad Q) args s (xm_mc M) (xm_ms M) (xm_A B0)) D dA ad b B0 (xm_ml M)) Q) : xm_G p l e R s m args below meth c (MQ below (xm_Qc D dA b B0 ad Q) args s (xm_mc M) (xm_ms M) (xm_A B0)) D dA ad b B0 (xm_ml M) (pc, lo, st, h, cn, sn) := by
  rcases hi with rfl | rfl | rfl
  · obtain ⟨rfl, x, ty, rfl, hrt, hn, hq⟩ := ho
    intro ws H locs ls rst hc hs hI
    obtain ⟨iR, iP, iD, iS, iL, w1, r1, rfl, e1, e2⟩ := hI
    have e1 : w1 = .int x := e1
    have e2 : r1 = [] := e2
    subst e1; subst e2
    refine W.widen (k := xm_mc M) (n := xm_ms M) (by rw [← F.2.2.1.1]; exact hc) (by rw [← F.2.2.1.2]; exact hs) ?_
    exact W.zret F.1.1 F.1.2.1 (hr.trans hrt) hn (fun t ht hW => ⟨⟨some (.int x), some (.int x), h, ws, rfl, ⟨_, rfl, rfl⟩, hq, iR, by rw [ht]; exact iP, iD⟩, iS.F ht⟩) iS.2.2 hd hlocks
  · obtain ⟨rfl, x, rfl, hrt, hq⟩ := ho
    intro ws H locs ls rst hc hs hI
    obtain ⟨iR, iP, iD, iS, iL, w1, r1, rfl, e1, e2⟩ := hI
    have e1 : w1 = .long x := e1
    have e2 : r1 = [] := e2
    subst e1; subst e2
    refine W.widen (k := xm_mc M) (n := xm_ms M) (by rw [← F.2.2.1.1]; exact hc) (by rw [← F.2.2.1.2]; exact hs) ?_
    exact W.lret F.1.1 F.1.2.1 (hr.trans hrt) (fun t ht hW => ⟨⟨some (.long x), some (.long x), h, ws, rfl, ⟨_, rfl, rfl⟩, hq, iR, by rw [ht]; exact iP, iD⟩, iS.F ht⟩) iS.2.2 hd hlocks
  · obtain ⟨rfl, rfl, hrt, hq⟩ := ho
    intro ws H locs ls rst hc hs hI
    obtain ⟨iR, iP, iD, iS, iL, e2⟩ := hI
    have e2 : rst = [] := e2
    subst e2
    refine W.widen (k := xm_mc M) (n := xm_ms M) (by rw [← F.2.2.1.1]; exact hc) (by rw [← F.2.2.1.2]; exact hs) ?_
    exact W.vret F.1.1 F.1.2.1 (hr.trans hrt) (fun t ht hW => ⟨⟨none, none, h, ws, rfl, rfl, hq, iR, by rw [ht]; exact iP, iD⟩, iS.F ht⟩) iS.2.2 hd hlocks
end XD
theorem xm_lay_len {ad : List Nat} {b : Nat} : ∀ {as ras : List Value}, xm_st ad b as ras → (lg_sl ras).length = (xm_lay as).length
  | [], _, h => by rw [show _ = [] from h]; rfl
  | v :: vs, _, ⟨w, r, h1, h2, h3⟩ => by
    have ih := xm_lay_len h3
    have hcat := xm_v_cat h2
    rw [h1]
    unfold lg_sl at ih ⊢
    rw [List.flatMap_cons, List.length_append, ih, hcat]
    rw [show xm_lay (v :: vs) = if v.category = 2 then v :: .float 0 :: xm_lay vs else v :: xm_lay vs from rfl]
    split <;> simp <;> omega
theorem xm_lay_at {ad : List Nat} {b : Nat} : ∀ {as ras : List Value} (k i : Nat) {v : Value}, xm_st ad b as ras → (xm_lay as)[i]? = some v → (∀ z, v ≠ .float z) → ∃ w, xm_v ad b v w ∧ (k + i, w) ∈ lv_args k ras
  | [], _, k, i, v, _, h, _ => by simp [xm_lay] at h
  | a :: as, _, k, i, v, ⟨w, r, h1, h2, h3⟩, h, hv => by
    have hcat := xm_v_cat h2
    rw [h1]
    unfold xm_lay at h
    unfold lv_args
    rw [hcat]
    split at h
    · rename_i hc
      rw [if_pos hc]
      match i, h with
      | 0, h =>
        rw [List.getElem?_cons_zero] at h
        cases h
        exact ⟨w, h2, List.mem_cons_self⟩
      | 1, h =>
        rw [List.getElem?_cons_succ, List.getElem?_cons_zero] at h
        exact absurd (Option.some.inj h).symm (hv 0)
      | i + 2, h =>
        rw [List.getElem?_cons_succ, List.getElem?_cons_succ] at h
        obtain ⟨u, e1, e2⟩ := xm_lay_at (k + 2) i h3 h hv
        exact ⟨u, e1, List.mem_cons_of_mem _ (by rw [show k + (i + 2) = k + 2 + i by omega]; exact e2)⟩
    · rename_i hc
      rw [if_neg hc]
      match i, h with
      | 0, h =>
        rw [List.getElem?_cons_zero] at h
        cases h
        exact ⟨w, h2, List.mem_cons_self⟩
      | i + 1, h =>
        rw [List.getElem?_cons_succ] at h
        obtain ⟨u, e1, e2⟩ := xm_lay_at (k + 1) i h3 h hv
        exact ⟨u, e1, List.mem_cons_of_mem _ (by rw [show k + (i + 1) = k + 1 + i by omega]; exact e2)⟩
theorem xm_l_ent {ad : List Nat} {b n : Nat} {as ras : List Value} (h : xm_st ad b as ras) (hn : (xm_lay as).length ≤ n) : xm_l ad b n (xm_ent n as) ((lg_sl ras ++ List.replicate (n - (lg_sl ras).length) Slot.unset).toArray) := by
  have hl := xm_lay_len h
  obtain ⟨g1, g2, g3⟩ := lv_entry ras (n := n) (by rw [hl]; exact hn)
  refine ⟨g1, g2, ?_, fun i v hv => ?_⟩
  · unfold xm_ent
    rw [List.length_append, List.length_replicate]
    omega
  · have hfl : ∀ z, v ≠ .float z := fun z hz => by
      have := hv.2
      rw [hz] at this
      exact this
    have hlay : (xm_lay as)[i]? = some v := by
      have h1 := hv.1
      unfold xm_ent at h1
      by_cases hi : i < (xm_lay as).length
      · rw [List.getElem?_append_left hi] at h1
        exact h1
      · rw [List.getElem?_append_right (by omega)] at h1
        exact absurd (List.eq_of_mem_replicate (List.mem_of_getElem? h1)) (hfl 0)
    obtain ⟨w, e1, e2⟩ := xm_lay_at 0 i h hlay hfl
    rw [Nat.zero_add] at e2
    exact ⟨w, e1, g3 _ e2⟩
theorem xs_met (l : Launch) {D : va_G} {dA : FieldType → ClassId} {b B0 L : Nat} {xs : Nat → Int32} : ∀ (d : Nat) (M : xm_M) (as : List Value) (h : xm_H) (Q : xm_Q), xm_call L xs d M as h Q → xm_ok M → xm_Met l d D dA b B0 L xs M as h Q
  | 0, M, as, h, Q, hc, _ => False.elim hc
  | d + 1, M, as, h, Q, ⟨hlen, hc⟩, ok => by
    intro ws ras hR hD hst
    refine Met.ofW (cc := xm_by M) (maxL := xm_ml M) (ret := xm_rt M) ok.2.2.1 rfl ?_
    intro p e s m args below meth c s₁ B hml hv
    obtain ⟨rfl, hE, hP⟩ := hv
    have hts := atoms_spec (ws := xm_ws M) B.pre
    have hown : s.vm.findClass (xm_y M).cls = some m.cls := findClass_of_methodNamed B.named
    have F : xm_F p (headSpec (xm_ws M) (xm_rm (d + 1) M)).room s m ras.toArray meth c M d D dA b B0 L xs := ⟨⟨B.exec, B.bytes, hml, hown, fun w hw => hts w (List.mem_cons_of_mem _ hw)⟩, hE, ⟨rfl, rfl⟩, ⟨Nat.le_refl _, Nat.le_of_eq (by show 48 * d + 48 = 48 * (d + 1); omega)⟩, (name_of_methodNamed B.named B.method).1⟩
    have hX := hc _ (xs_cls (e := e) (l := l) (below := below) (ad := xm_ad ws) F (fun M' as' h' Q' => xs_met l d M' as' h' Q') (xs_ret_met F B.returns B.notSynchronized))
    rw [lg_entry_eq]
    exact hX ws s.heap [] _ [] (Nat.zero_le _) (Nat.zero_le _) ⟨xm_R_self hR, hP, hD, va_S.rf, xm_l_ent hst hlen, rfl⟩
end
section
/-! Forward rules of the small machine. (Printed by gen_rules.py.) -/
def xm_gf (own : String) (k ci j : Nat) : Prop := ∃ C T N ty, xm_cl ci C T N ty ∧ j < N ∧ xm_fk own k (T j)
def xm_pf (y : MethodName) (k ci j : Nat) (t : FieldType) : Prop := ∃ C T N ty, xm_cl ci C T N ty ∧ j < N ∧ xm_fk y.cls k (T j) ∧ ((T j).2.2.2 = false ∨ ((T j).2.2.2 = true ∧ (T j).1 = y.cls ∧ y.name = "<init>" ∧ Cond.fieldLink y.cls k (T j).1 (T j).2.1 (T j).2.2.1 ∈ tb_all)) ∧ ty j = t
def xm_nf (own : String) (k ci N : Nat) (fs : List Value) : Prop := ∃ C T ty, xm_cl ci C T N ty ∧ Cond.classLink own k C ∈ tb_all ∧ Cond.instantiable C N ∈ tb_all ∧ Cond.initialized C ∈ tb_all ∧ (∀ j, j < N → defaultValue (ty j) = vp_V fs j) ∧ fs.all xm_plain = true
def xm_cs (own : String) (k : Nat) (Mj : xm_M) (n : Nat) : Prop := xm_ok Mj ∧ xm_lk own k (xm_y Mj) ∧ Cond.static (xm_y Mj) ∈ tb_all ∧ xm_np (xm_y Mj) n
def xm_cv (own : String) (k : Nat) (Mj : xm_M) (n ci : Nat) : Prop := xm_ok Mj ∧ xm_lk own k (xm_y Mj) ∧ Cond.instanceMethod (xm_y Mj) ∈ tb_all ∧ Cond.selects (xm_y Mj).cls (xm_y Mj) (xm_y Mj) ∈ tb_all ∧ xm_np (xm_y Mj) n ∧ ∃ C T N ty, xm_cl ci C T N ty ∧ C = (xm_y Mj).cls
def xm_cn (own : String) (k : Nat) (Mj : xm_M) (n : Nat) : Prop := xm_ok Mj ∧ xm_rt Mj = none ∧ xm_lk own k (xm_y Mj) ∧ (xm_y Mj).name = "<init>" ∧ Cond.instanceMethod (xm_y Mj) ∈ tb_all ∧ xm_np (xm_y Mj) n
section XU
variable {L : Nat} {xs : Nat → Int32} {call : xm_K} {M : xm_M} {Q : xm_Q} {pc pc' : Nat} {lo lo' st st' : List Value} {h h' : xm_H} {c s c' s' : Nat}
theorem x_iconst {n : Int} {v : Int32} (d : decode (xm_by M) pc = .ok (.iconst n, 1)) (e : pc + 1 = pc') (hv : Int32.ofInt n = v) (k : xm_X L xs call M (pc', lo, .int v :: st, h, c, s) Q) : xm_X L xs call M (pc, lo, st, h, c, s) Q := by
  subst e; subst hv
  exact fun P hP => hP _ _ _ _ _ _ _ _ d ⟨rfl, k P hP⟩
theorem x_bipush {n : Int} {v : Int32} (d : decode (xm_by M) pc = .ok (.bipush n, 2)) (e : pc + 2 = pc') (hv : (Int8.ofInt n).toInt32 = v) (k : xm_X L xs call M (pc', lo, .int v :: st, h, c, s) Q) : xm_X L xs call M (pc, lo, st, h, c, s) Q := by
  subst e; subst hv
  exact fun P hP => hP _ _ _ _ _ _ _ _ d ⟨rfl, k P hP⟩
theorem x_sipush {n : Int} {v : Int32} (d : decode (xm_by M) pc = .ok (.sipush n, 3)) (e : pc + 3 = pc') (hv : (Int16.ofInt n).toInt32 = v) (k : xm_X L xs call M (pc', lo, .int v :: st, h, c, s) Q) : xm_X L xs call M (pc, lo, st, h, c, s) Q := by
  subst e; subst hv
  exact fun P hP => hP _ _ _ _ _ _ _ _ d ⟨rfl, k P hP⟩
theorem x_lconst {n : Fin 2} {v : Int64} (d : decode (xm_by M) pc = .ok (.lconst n, 1)) (e : pc + 1 = pc') (hv : Int64.ofNat (n : Nat) = v) (k : xm_X L xs call M (pc', lo, .long v :: st, h, c, s) Q) : xm_X L xs call M (pc, lo, st, h, c, s) Q := by
  subst e; subst hv
  exact fun P hP => hP _ _ _ _ _ _ _ _ d ⟨rfl, k P hP⟩
theorem x_ldc2_w {j : Nat} {x : Int64} (d : decode (xm_by M) pc = .ok (.ldc2_w j, 3)) (e : pc + 3 = pc') (hx : Cond.constantLong (xm_y M).cls j x ∈ tb_all) (k : xm_X L xs call M (pc', lo, .long x :: st, h, c, s) Q) : xm_X L xs call M (pc, lo, st, h, c, s) Q := by
  subst e
  exact fun P hP => hP _ _ _ _ _ _ _ _ d ⟨rfl, x, hx, k P hP⟩
theorem x_iload_n {n : Fin 4} {x : Int32} (d : decode (xm_by M) pc = .ok (.iload_n n, 1)) (e : pc + 1 = pc') (hl : lo[(n : Nat)]? = some (.int x)) (k : xm_X L xs call M (pc', lo, .int x :: st, h, c, s) Q) : xm_X L xs call M (pc, lo, st, h, c, s) Q := by
  subst e
  exact fun P hP => hP _ _ _ _ _ _ _ _ d ⟨rfl, x, hl, k P hP⟩
theorem x_lload_n {n : Fin 4} {x : Int64} {z : UInt32} (d : decode (xm_by M) pc = .ok (.lload_n n, 1)) (e : pc + 1 = pc') (hl : lo[(n : Nat)]? = some (.long x)) (hz : lo[(n : Nat) + 1]? = some (.float z)) (k : xm_X L xs call M (pc', lo, .long x :: st, h, c, s) Q) : xm_X L xs call M (pc, lo, st, h, c, s) Q := by
  subst e
  exact fun P hP => hP _ _ _ _ _ _ _ _ d ⟨rfl, x, z, hl, hz, k P hP⟩
theorem x_aload_n {n : Fin 4} {a : Nat} (d : decode (xm_by M) pc = .ok (.aload_n n, 1)) (e : pc + 1 = pc') (hl : lo[(n : Nat)]? = some (.ref a)) (k : xm_X L xs call M (pc', lo, .ref a :: st, h, c, s) Q) : xm_X L xs call M (pc, lo, st, h, c, s) Q := by
  subst e
  exact fun P hP => hP _ _ _ _ _ _ _ _ d ⟨rfl, _, hl, Or.inl ⟨a, rfl⟩, k P hP⟩
theorem x_sload_n {n : Fin 4} (d : decode (xm_by M) pc = .ok (.aload_n n, 1)) (e : pc + 1 = pc') (hl : lo[(n : Nat)]? = some (.retAddr 0)) (k : xm_X L xs call M (pc', lo, .retAddr 0 :: st, h, c, s) Q) : xm_X L xs call M (pc, lo, st, h, c, s) Q := by
  subst e
  exact fun P hP => hP _ _ _ _ _ _ _ _ d ⟨rfl, _, hl, Or.inr rfl, k P hP⟩
theorem x_istore_n {n : Fin 4} {x : Int32} (d : decode (xm_by M) pc = .ok (.istore_n n, 1)) (e : pc + 1 = pc') (hn : (n : Nat) < lo.length) (hl : lo.set (n : Nat) (.int x) = lo') (k : xm_X L xs call M (pc', lo', st, h, c, s) Q) : xm_X L xs call M (pc, lo, .int x :: st, h, c, s) Q := by
  subst e; subst hl
  exact fun P hP => hP _ _ _ _ _ _ _ _ d ⟨rfl, x, st, rfl, hn, k P hP⟩
theorem x_lstore_n {n : Fin 4} {x : Int64} (d : decode (xm_by M) pc = .ok (.lstore_n n, 1)) (e : pc + 1 = pc') (hn : (n : Nat) + 1 < lo.length) (hl : (lo.set (n : Nat) (.long x)).set ((n : Nat) + 1) (.float 0) = lo') (k : xm_X L xs call M (pc', lo', st, h, c, s) Q) : xm_X L xs call M (pc, lo, .long x :: st, h, c, s) Q := by
  subst e; subst hl
  exact fun P hP => hP _ _ _ _ _ _ _ _ d ⟨rfl, x, st, rfl, hn, k P hP⟩
theorem x_astore_n {n : Fin 4} {a : Nat} (d : decode (xm_by M) pc = .ok (.astore_n n, 1)) (e : pc + 1 = pc') (hn : (n : Nat) < lo.length) (hl : lo.set (n : Nat) (.ref a) = lo') (k : xm_X L xs call M (pc', lo', st, h, c, s) Q) : xm_X L xs call M (pc, lo, .ref a :: st, h, c, s) Q := by
  subst e; subst hl
  exact fun P hP => hP _ _ _ _ _ _ _ _ d ⟨rfl, a, st, rfl, hn, k P hP⟩
theorem x_iload {n : Nat} {x : Int32} (d : decode (xm_by M) pc = .ok (.iload n, 2)) (e : pc + 2 = pc') (hl : lo[n]? = some (.int x)) (k : xm_X L xs call M (pc', lo, .int x :: st, h, c, s) Q) : xm_X L xs call M (pc, lo, st, h, c, s) Q := by
  subst e
  exact fun P hP => hP _ _ _ _ _ _ _ _ d ⟨rfl, x, hl, k P hP⟩
theorem x_lload {n : Nat} {x : Int64} {z : UInt32} (d : decode (xm_by M) pc = .ok (.lload n, 2)) (e : pc + 2 = pc') (hl : lo[n]? = some (.long x)) (hz : lo[n + 1]? = some (.float z)) (k : xm_X L xs call M (pc', lo, .long x :: st, h, c, s) Q) : xm_X L xs call M (pc, lo, st, h, c, s) Q := by
  subst e
  exact fun P hP => hP _ _ _ _ _ _ _ _ d ⟨rfl, x, z, hl, hz, k P hP⟩
theorem x_aload {n : Nat} {a : Nat} (d : decode (xm_by M) pc = .ok (.aload n, 2)) (e : pc + 2 = pc') (hl : lo[n]? = some (.ref a)) (k : xm_X L xs call M (pc', lo, .ref a :: st, h, c, s) Q) : xm_X L xs call M (pc, lo, st, h, c, s) Q := by
  subst e
  exact fun P hP => hP _ _ _ _ _ _ _ _ d ⟨rfl, _, hl, Or.inl ⟨a, rfl⟩, k P hP⟩
theorem x_sload {n : Nat} (d : decode (xm_by M) pc = .ok (.aload n, 2)) (e : pc + 2 = pc') (hl : lo[n]? = some (.retAddr 0)) (k : xm_X L xs call M (pc', lo, .retAddr 0 :: st, h, c, s) Q) : xm_X L xs call M (pc, lo, st, h, c, s) Q := by
  subst e
  exact fun P hP => hP _ _ _ _ _ _ _ _ d ⟨rfl, _, hl, Or.inr rfl, k P hP⟩
theorem x_istore {n : Nat} {x : Int32} (d : decode (xm_by M) pc = .ok (.istore n, 2)) (e : pc + 2 = pc') (hn : n < lo.length) (hl : lo.set n (.int x) = lo') (k : xm_X L xs call M (pc', lo', st, h, c, s) Q) : xm_X L xs call M (pc, lo, .int x :: st, h, c, s) Q := by
  subst e; subst hl
  exact fun P hP => hP _ _ _ _ _ _ _ _ d ⟨rfl, x, st, rfl, hn, k P hP⟩
theorem x_lstore {n : Nat} {x : Int64} (d : decode (xm_by M) pc = .ok (.lstore n, 2)) (e : pc + 2 = pc') (hn : n + 1 < lo.length) (hl : (lo.set n (.long x)).set (n + 1) (.float 0) = lo') (k : xm_X L xs call M (pc', lo', st, h, c, s) Q) : xm_X L xs call M (pc, lo, .long x :: st, h, c, s) Q := by
  subst e; subst hl
  exact fun P hP => hP _ _ _ _ _ _ _ _ d ⟨rfl, x, st, rfl, hn, k P hP⟩
theorem x_astore {n : Nat} {a : Nat} (d : decode (xm_by M) pc = .ok (.astore n, 2)) (e : pc + 2 = pc') (hn : n < lo.length) (hl : lo.set n (.ref a) = lo') (k : xm_X L xs call M (pc', lo', st, h, c, s) Q) : xm_X L xs call M (pc, lo, .ref a :: st, h, c, s) Q := by
  subst e; subst hl
  exact fun P hP => hP _ _ _ _ _ _ _ _ d ⟨rfl, a, st, rfl, hn, k P hP⟩
theorem x_iinc {n : Nat} {j : Int} {x y : Int32} (d : decode (xm_by M) pc = .ok (.iinc n j, 3)) (e : pc + 3 = pc') (hx : lo[n]? = some (.int x)) (hy : x + Int32.ofInt j = y) (hl : lo.set n (.int y) = lo') (k : xm_X L xs call M (pc', lo', st, h, c, s) Q) : xm_X L xs call M (pc, lo, st, h, c, s) Q := by
  subst e; subst hy; subst hl
  exact fun P hP => hP _ _ _ _ _ _ _ _ d ⟨rfl, x, hx, k P hP⟩
theorem x_iadd {x : Int32} {y : Int32} {z : Int32} (d : decode (xm_by M) pc = .ok (.iadd, 1)) (e : pc + 1 = pc') (hz : (x + y) = z) (k : xm_X L xs call M (pc', lo, .int z :: st, h, c, s) Q) : xm_X L xs call M (pc, lo, .int y :: .int x :: st, h, c, s) Q := by
  subst e; subst hz
  exact fun P hP => hP _ _ _ _ _ _ _ _ d ⟨rfl, x, y, st, rfl, k P hP⟩
theorem x_isub {x : Int32} {y : Int32} {z : Int32} (d : decode (xm_by M) pc = .ok (.isub, 1)) (e : pc + 1 = pc') (hz : (x - y) = z) (k : xm_X L xs call M (pc', lo, .int z :: st, h, c, s) Q) : xm_X L xs call M (pc, lo, .int y :: .int x :: st, h, c, s) Q := by
  subst e; subst hz
  exact fun P hP => hP _ _ _ _ _ _ _ _ d ⟨rfl, x, y, st, rfl, k P hP⟩
theorem x_imul {x : Int32} {y : Int32} {z : Int32} (d : decode (xm_by M) pc = .ok (.imul, 1)) (e : pc + 1 = pc') (hz : (x * y) = z) (k : xm_X L xs call M (pc', lo, .int z :: st, h, c, s) Q) : xm_X L xs call M (pc, lo, .int y :: .int x :: st, h, c, s) Q := by
  subst e; subst hz
  exact fun P hP => hP _ _ _ _ _ _ _ _ d ⟨rfl, x, y, st, rfl, k P hP⟩
theorem x_iand {x : Int32} {y : Int32} {z : Int32} (d : decode (xm_by M) pc = .ok (.iand, 1)) (e : pc + 1 = pc') (hz : (x &&& y) = z) (k : xm_X L xs call M (pc', lo, .int z :: st, h, c, s) Q) : xm_X L xs call M (pc, lo, .int y :: .int x :: st, h, c, s) Q := by
  subst e; subst hz
  exact fun P hP => hP _ _ _ _ _ _ _ _ d ⟨rfl, x, y, st, rfl, k P hP⟩
theorem x_ladd {x : Int64} {y : Int64} {z : Int64} (d : decode (xm_by M) pc = .ok (.ladd, 1)) (e : pc + 1 = pc') (hz : (x + y) = z) (k : xm_X L xs call M (pc', lo, .long z :: st, h, c, s) Q) : xm_X L xs call M (pc, lo, .long y :: .long x :: st, h, c, s) Q := by
  subst e; subst hz
  exact fun P hP => hP _ _ _ _ _ _ _ _ d ⟨rfl, x, y, st, rfl, k P hP⟩
theorem x_lsub {x : Int64} {y : Int64} {z : Int64} (d : decode (xm_by M) pc = .ok (.lsub, 1)) (e : pc + 1 = pc') (hz : (x - y) = z) (k : xm_X L xs call M (pc', lo, .long z :: st, h, c, s) Q) : xm_X L xs call M (pc, lo, .long y :: .long x :: st, h, c, s) Q := by
  subst e; subst hz
  exact fun P hP => hP _ _ _ _ _ _ _ _ d ⟨rfl, x, y, st, rfl, k P hP⟩
theorem x_land {x : Int64} {y : Int64} {z : Int64} (d : decode (xm_by M) pc = .ok (.land, 1)) (e : pc + 1 = pc') (hz : (x &&& y) = z) (k : xm_X L xs call M (pc', lo, .long z :: st, h, c, s) Q) : xm_X L xs call M (pc, lo, .long y :: .long x :: st, h, c, s) Q := by
  subst e; subst hz
  exact fun P hP => hP _ _ _ _ _ _ _ _ d ⟨rfl, x, y, st, rfl, k P hP⟩
theorem x_lor {x : Int64} {y : Int64} {z : Int64} (d : decode (xm_by M) pc = .ok (.lor, 1)) (e : pc + 1 = pc') (hz : (x ||| y) = z) (k : xm_X L xs call M (pc', lo, .long z :: st, h, c, s) Q) : xm_X L xs call M (pc, lo, .long y :: .long x :: st, h, c, s) Q := by
  subst e; subst hz
  exact fun P hP => hP _ _ _ _ _ _ _ _ d ⟨rfl, x, y, st, rfl, k P hP⟩
theorem x_lxor {x : Int64} {y : Int64} {z : Int64} (d : decode (xm_by M) pc = .ok (.lxor, 1)) (e : pc + 1 = pc') (hz : (x ^^^ y) = z) (k : xm_X L xs call M (pc', lo, .long z :: st, h, c, s) Q) : xm_X L xs call M (pc, lo, .long y :: .long x :: st, h, c, s) Q := by
  subst e; subst hz
  exact fun P hP => hP _ _ _ _ _ _ _ _ d ⟨rfl, x, y, st, rfl, k P hP⟩
theorem x_lshl {x : Int64} {y : Int32} {z : Int64} (d : decode (xm_by M) pc = .ok (.lshl, 1)) (e : pc + 1 = pc') (hz : (x <<< (y.toInt64 &&& 63)) = z) (k : xm_X L xs call M (pc', lo, .long z :: st, h, c, s) Q) : xm_X L xs call M (pc, lo, .int y :: .long x :: st, h, c, s) Q := by
  subst e; subst hz
  exact fun P hP => hP _ _ _ _ _ _ _ _ d ⟨rfl, x, y, st, rfl, k P hP⟩
theorem x_lshr {x : Int64} {y : Int32} {z : Int64} (d : decode (xm_by M) pc = .ok (.lshr, 1)) (e : pc + 1 = pc') (hz : (x >>> (y.toInt64 &&& 63)) = z) (k : xm_X L xs call M (pc', lo, .long z :: st, h, c, s) Q) : xm_X L xs call M (pc, lo, .int y :: .long x :: st, h, c, s) Q := by
  subst e; subst hz
  exact fun P hP => hP _ _ _ _ _ _ _ _ d ⟨rfl, x, y, st, rfl, k P hP⟩
theorem x_lushr {x : Int64} {y : Int32} {z : Int64} (d : decode (xm_by M) pc = .ok (.lushr, 1)) (e : pc + 1 = pc') (hz : (x.toUInt64 >>> (y.toInt64.toUInt64 &&& Int64.toUInt64 63)).toInt64 = z) (k : xm_X L xs call M (pc', lo, .long z :: st, h, c, s) Q) : xm_X L xs call M (pc, lo, .int y :: .long x :: st, h, c, s) Q := by
  subst e; subst hz
  exact fun P hP => hP _ _ _ _ _ _ _ _ d ⟨rfl, x, y, st, rfl, k P hP⟩
theorem x_lcmp {x : Int64} {y : Int64} {z : Int32} (d : decode (xm_by M) pc = .ok (.lcmp, 1)) (e : pc + 1 = pc') (hz : (lg_cmp x y) = z) (k : xm_X L xs call M (pc', lo, .int z :: st, h, c, s) Q) : xm_X L xs call M (pc, lo, .long y :: .long x :: st, h, c, s) Q := by
  subst e; subst hz
  exact fun P hP => hP _ _ _ _ _ _ _ _ d ⟨rfl, x, y, st, rfl, k P hP⟩
theorem x_i2l {x : Int32} {z : Int64} (d : decode (xm_by M) pc = .ok (.i2l, 1)) (e : pc + 1 = pc') (hz : x.toInt64 = z) (k : xm_X L xs call M (pc', lo, .long z :: st, h, c, s) Q) : xm_X L xs call M (pc, lo, .int x :: st, h, c, s) Q := by
  subst e; subst hz
  exact fun P hP => hP _ _ _ _ _ _ _ _ d ⟨rfl, x, st, rfl, k P hP⟩
theorem x_l2i {x : Int64} {z : Int32} (d : decode (xm_by M) pc = .ok (.l2i, 1)) (e : pc + 1 = pc') (hz : x.toInt32 = z) (k : xm_X L xs call M (pc', lo, .int z :: st, h, c, s) Q) : xm_X L xs call M (pc, lo, .long x :: st, h, c, s) Q := by
  subst e; subst hz
  exact fun P hP => hP _ _ _ _ _ _ _ _ d ⟨rfl, x, st, rfl, k P hP⟩
theorem x_dup {v : Value} (d : decode (xm_by M) pc = .ok (.dup, 1)) (e : pc + 1 = pc') (hv : v.category = 1) (k : xm_X L xs call M (pc', lo, v :: v :: st, h, c, s) Q) : xm_X L xs call M (pc, lo, v :: st, h, c, s) Q := by
  subst e
  exact fun P hP => hP _ _ _ _ _ _ _ _ d ⟨rfl, v, st, rfl, hv, k P hP⟩
theorem x_pop {v : Value} (d : decode (xm_by M) pc = .ok (.pop, 1)) (e : pc + 1 = pc') (hv : v.category = 1) (k : xm_X L xs call M (pc', lo, st, h, c, s) Q) : xm_X L xs call M (pc, lo, v :: st, h, c, s) Q := by
  subst e
  exact fun P hP => hP _ _ _ _ _ _ _ _ d ⟨rfl, v, st, rfl, hv, k P hP⟩
theorem x_ifeq {x : Int32} {off : Int} {t : Nat} (d : decode (xm_by M) pc = .ok (.ifCond .eq off, 3)) (e : pc + 3 = pc') (ht : (pc : Int) + off = (t : Int)) (kt : x = 0 → xm_X L xs call M (t, lo, st, h, c, s) Q) (kf : ¬ x = 0 → xm_X L xs call M (pc', lo, st, h, c, s) Q) : xm_X L xs call M (pc, lo, .int x :: st, h, c, s) Q := by
  subst e
  exact fun P hP => hP _ _ _ _ _ _ _ _ d ⟨rfl, t, x, st, ht, rfl, fun q => kt q P hP, fun q => kf q P hP⟩
theorem x_ifne {x : Int32} {off : Int} {t : Nat} (d : decode (xm_by M) pc = .ok (.ifCond .ne off, 3)) (e : pc + 3 = pc') (ht : (pc : Int) + off = (t : Int)) (kt : ¬ x = 0 → xm_X L xs call M (t, lo, st, h, c, s) Q) (kf : x = 0 → xm_X L xs call M (pc', lo, st, h, c, s) Q) : xm_X L xs call M (pc, lo, .int x :: st, h, c, s) Q := by
  subst e
  exact fun P hP => hP _ _ _ _ _ _ _ _ d ⟨rfl, t, x, st, ht, rfl, fun q => kt q P hP, fun q => kf q P hP⟩
theorem x_iflt {x : Int32} {off : Int} {t : Nat} (d : decode (xm_by M) pc = .ok (.ifCond .lt off, 3)) (e : pc + 3 = pc') (ht : (pc : Int) + off = (t : Int)) (kt : x < 0 → xm_X L xs call M (t, lo, st, h, c, s) Q) (kf : ¬ x < 0 → xm_X L xs call M (pc', lo, st, h, c, s) Q) : xm_X L xs call M (pc, lo, .int x :: st, h, c, s) Q := by
  subst e
  exact fun P hP => hP _ _ _ _ _ _ _ _ d ⟨rfl, t, x, st, ht, rfl, fun q => kt q P hP, fun q => kf q P hP⟩
theorem x_ifge {x : Int32} {off : Int} {t : Nat} (d : decode (xm_by M) pc = .ok (.ifCond .ge off, 3)) (e : pc + 3 = pc') (ht : (pc : Int) + off = (t : Int)) (kt : 0 ≤ x → xm_X L xs call M (t, lo, st, h, c, s) Q) (kf : ¬ 0 ≤ x → xm_X L xs call M (pc', lo, st, h, c, s) Q) : xm_X L xs call M (pc, lo, .int x :: st, h, c, s) Q := by
  subst e
  exact fun P hP => hP _ _ _ _ _ _ _ _ d ⟨rfl, t, x, st, ht, rfl, fun q => kt q P hP, fun q => kf q P hP⟩
theorem x_ifgt {x : Int32} {off : Int} {t : Nat} (d : decode (xm_by M) pc = .ok (.ifCond .gt off, 3)) (e : pc + 3 = pc') (ht : (pc : Int) + off = (t : Int)) (kt : 0 < x → xm_X L xs call M (t, lo, st, h, c, s) Q) (kf : ¬ 0 < x → xm_X L xs call M (pc', lo, st, h, c, s) Q) : xm_X L xs call M (pc, lo, .int x :: st, h, c, s) Q := by
  subst e
  exact fun P hP => hP _ _ _ _ _ _ _ _ d ⟨rfl, t, x, st, ht, rfl, fun q => kt q P hP, fun q => kf q P hP⟩
theorem x_ifle {x : Int32} {off : Int} {t : Nat} (d : decode (xm_by M) pc = .ok (.ifCond .le off, 3)) (e : pc + 3 = pc') (ht : (pc : Int) + off = (t : Int)) (kt : x ≤ 0 → xm_X L xs call M (t, lo, st, h, c, s) Q) (kf : ¬ x ≤ 0 → xm_X L xs call M (pc', lo, st, h, c, s) Q) : xm_X L xs call M (pc, lo, .int x :: st, h, c, s) Q := by
  subst e
  exact fun P hP => hP _ _ _ _ _ _ _ _ d ⟨rfl, t, x, st, ht, rfl, fun q => kt q P hP, fun q => kf q P hP⟩
theorem x_icmpeq {x y : Int32} {off : Int} {t : Nat} (d : decode (xm_by M) pc = .ok (.if_icmp .eq off, 3)) (e : pc + 3 = pc') (ht : (pc : Int) + off = (t : Int)) (kt : x = y → xm_X L xs call M (t, lo, st, h, c, s) Q) (kf : ¬ x = y → xm_X L xs call M (pc', lo, st, h, c, s) Q) : xm_X L xs call M (pc, lo, .int y :: .int x :: st, h, c, s) Q := by
  subst e
  exact fun P hP => hP _ _ _ _ _ _ _ _ d ⟨rfl, t, x, y, st, ht, rfl, fun q => kt q P hP, fun q => kf q P hP⟩
theorem x_icmpne {x y : Int32} {off : Int} {t : Nat} (d : decode (xm_by M) pc = .ok (.if_icmp .ne off, 3)) (e : pc + 3 = pc') (ht : (pc : Int) + off = (t : Int)) (kt : ¬ x = y → xm_X L xs call M (t, lo, st, h, c, s) Q) (kf : x = y → xm_X L xs call M (pc', lo, st, h, c, s) Q) : xm_X L xs call M (pc, lo, .int y :: .int x :: st, h, c, s) Q := by
  subst e
  exact fun P hP => hP _ _ _ _ _ _ _ _ d ⟨rfl, t, x, y, st, ht, rfl, fun q => kt q P hP, fun q => kf q P hP⟩
theorem x_icmplt {x y : Int32} {off : Int} {t : Nat} (d : decode (xm_by M) pc = .ok (.if_icmp .lt off, 3)) (e : pc + 3 = pc') (ht : (pc : Int) + off = (t : Int)) (kt : x < y → xm_X L xs call M (t, lo, st, h, c, s) Q) (kf : ¬ x < y → xm_X L xs call M (pc', lo, st, h, c, s) Q) : xm_X L xs call M (pc, lo, .int y :: .int x :: st, h, c, s) Q := by
  subst e
  exact fun P hP => hP _ _ _ _ _ _ _ _ d ⟨rfl, t, x, y, st, ht, rfl, fun q => kt q P hP, fun q => kf q P hP⟩
theorem x_icmpge {x y : Int32} {off : Int} {t : Nat} (d : decode (xm_by M) pc = .ok (.if_icmp .ge off, 3)) (e : pc + 3 = pc') (ht : (pc : Int) + off = (t : Int)) (kt : y ≤ x → xm_X L xs call M (t, lo, st, h, c, s) Q) (kf : ¬ y ≤ x → xm_X L xs call M (pc', lo, st, h, c, s) Q) : xm_X L xs call M (pc, lo, .int y :: .int x :: st, h, c, s) Q := by
  subst e
  exact fun P hP => hP _ _ _ _ _ _ _ _ d ⟨rfl, t, x, y, st, ht, rfl, fun q => kt q P hP, fun q => kf q P hP⟩
theorem x_icmpgt {x y : Int32} {off : Int} {t : Nat} (d : decode (xm_by M) pc = .ok (.if_icmp .gt off, 3)) (e : pc + 3 = pc') (ht : (pc : Int) + off = (t : Int)) (kt : y < x → xm_X L xs call M (t, lo, st, h, c, s) Q) (kf : ¬ y < x → xm_X L xs call M (pc', lo, st, h, c, s) Q) : xm_X L xs call M (pc, lo, .int y :: .int x :: st, h, c, s) Q := by
  subst e
  exact fun P hP => hP _ _ _ _ _ _ _ _ d ⟨rfl, t, x, y, st, ht, rfl, fun q => kt q P hP, fun q => kf q P hP⟩
theorem x_icmple {x y : Int32} {off : Int} {t : Nat} (d : decode (xm_by M) pc = .ok (.if_icmp .le off, 3)) (e : pc + 3 = pc') (ht : (pc : Int) + off = (t : Int)) (kt : x ≤ y → xm_X L xs call M (t, lo, st, h, c, s) Q) (kf : ¬ x ≤ y → xm_X L xs call M (pc', lo, st, h, c, s) Q) : xm_X L xs call M (pc, lo, .int y :: .int x :: st, h, c, s) Q := by
  subst e
  exact fun P hP => hP _ _ _ _ _ _ _ _ d ⟨rfl, t, x, y, st, ht, rfl, fun q => kt q P hP, fun q => kf q P hP⟩
theorem x_goto {off : Int} {t : Nat} (d : decode (xm_by M) pc = .ok (.goto off, 3)) (ht : (pc : Int) + off = (t : Int)) (k : xm_X L xs call M (t, lo, st, h, c, s) Q) : xm_X L xs call M (pc, lo, st, h, c, s) Q := fun P hP => hP _ _ _ _ _ _ _ _ d ⟨rfl, t, ht, k P hP⟩
theorem x_tsOut {x : Int32} {d0 l0 h0 : Int} {offs : Array Int} {len t : Nat} (d : decode (xm_by M) pc = .ok (.tableswitch d0 l0 h0 offs, len)) (hx : x.toInt < l0 ∨ h0 < x.toInt) (ht : (pc : Int) + d0 = (t : Int)) (k : xm_X L xs call M (t, lo, st, h, c, s) Q) : xm_X L xs call M (pc, lo, .int x :: st, h, c, s) Q := fun P hP => hP _ _ _ _ _ _ _ _ d ⟨x, st, rfl, t, Or.inl ⟨hx, ht⟩, k P hP⟩
theorem x_tsIn {x : Int32} {d0 l0 h0 off : Int} {offs : Array Int} {len t : Nat} (d : decode (xm_by M) pc = .ok (.tableswitch d0 l0 h0 offs, len)) (h1 : ¬ x.toInt < l0) (h2 : ¬ h0 < x.toInt) (ho : offs[(x.toInt - l0).toNat]? = some off) (ht : (pc : Int) + off = (t : Int)) (k : xm_X L xs call M (t, lo, st, h, c, s) Q) : xm_X L xs call M (pc, lo, .int x :: st, h, c, s) Q := fun P hP => hP _ _ _ _ _ _ _ _ d ⟨x, st, rfl, t, Or.inr ⟨h1, h2, off, ho, ht⟩, k P hP⟩
theorem x_slen {n : Int32} (d : decode (xm_by M) pc = .ok (.arraylength, 1)) (e : pc + 1 = pc') (hn : Int32.ofNat L = n) (k : xm_X L xs call M (pc', lo, .int n :: st, h, c, s) Q) : xm_X L xs call M (pc, lo, .retAddr 0 :: st, h, c, s) Q := by
  subst e; subst hn
  exact fun P hP => hP _ _ _ _ _ _ _ _ d ⟨rfl, st, rfl, k P hP⟩
theorem x_sld {i v : Int32} (d : decode (xm_by M) pc = .ok (.iaload, 1)) (e : pc + 1 = pc') (hi : vp_in i L) (hv : xs i.toNatClampNeg = v) (k : xm_X L xs call M (pc', lo, .int v :: st, h, c, s) Q) : xm_X L xs call M (pc, lo, .int i :: .retAddr 0 :: st, h, c, s) Q := by
  subst e; subst hv
  exact fun P hP => hP _ _ _ _ _ _ _ _ d ⟨rfl, Or.inl ⟨i, st, rfl, hi, k P hP⟩⟩
theorem x_iaload {i v : Int32} {a n : Nat} {f : Nat → Int32} (d : decode (xm_by M) pc = .ok (.iaload, 1)) (e : pc + 1 = pc') (ha : h[a]? = some (.inl (.int, n, .inl f))) (hi : vp_in i n) (hv : f i.toNatClampNeg = v) (k : xm_X L xs call M (pc', lo, .int v :: st, h, c, s) Q) : xm_X L xs call M (pc, lo, .int i :: .ref a :: st, h, c, s) Q := by
  subst e; subst hv
  exact fun P hP => hP _ _ _ _ _ _ _ _ d ⟨rfl, Or.inr ⟨i, a, st, n, f, rfl, ha, hi, k P hP⟩⟩
theorem x_laload {i : Int32} {v : Int64} {a n : Nat} {f : Nat → Int64} (d : decode (xm_by M) pc = .ok (.laload, 1)) (e : pc + 1 = pc') (ha : h[a]? = some (.inl (.long, n, .inr (.inl f)))) (hi : vp_in i n) (hv : f i.toNatClampNeg = v) (k : xm_X L xs call M (pc', lo, .long v :: st, h, c, s) Q) : xm_X L xs call M (pc, lo, .int i :: .ref a :: st, h, c, s) Q := by
  subst e; subst hv
  exact fun P hP => hP _ _ _ _ _ _ _ _ d ⟨rfl, i, a, st, n, f, rfl, ha, hi, k P hP⟩
theorem x_aaload {i : Int32} {a n q : Nat} {ty : FieldType} {f : Nat → Option Nat} (d : decode (xm_by M) pc = .ok (.aaload, 1)) (e : pc + 1 = pc') (ha : h[a]? = some (.inl (ty, n, .inr (.inr (.inr (.inr f)))))) (hty : ty = .array .int ∨ ty = .object tb_rc) (hi : vp_in i n) (hv : f i.toNatClampNeg = some q) (k : xm_X L xs call M (pc', lo, .ref q :: st, h, c, s) Q) : xm_X L xs call M (pc, lo, .int i :: .ref a :: st, h, c, s) Q := by
  subst e
  exact fun P hP => hP _ _ _ _ _ _ _ _ d ⟨rfl, i, a, st, ty, n, f, q, rfl, ha, hty, hi, hv, k P hP⟩
theorem x_iastore {x i : Int32} {a n : Nat} {f : Nat → Int32} (d : decode (xm_by M) pc = .ok (.iastore, 1)) (e : pc + 1 = pc') (ha : h[a]? = some (.inl (.int, n, .inl f))) (hi : vp_in i n) (hh : h.set a (.inl (.int, n, .inl (upd f i.toNatClampNeg x))) = h') (k : xm_X L xs call M (pc', lo, st, h', c, s) Q) : xm_X L xs call M (pc, lo, .int x :: .int i :: .ref a :: st, h, c, s) Q := by
  subst e; subst hh
  exact fun P hP => hP _ _ _ _ _ _ _ _ d ⟨rfl, x, i, a, st, n, f, rfl, ha, hi, k P hP⟩
theorem x_lastore {x : Int64} {i : Int32} {a n : Nat} {f : Nat → Int64} (d : decode (xm_by M) pc = .ok (.lastore, 1)) (e : pc + 1 = pc') (ha : h[a]? = some (.inl (.long, n, .inr (.inl f)))) (hi : vp_in i n) (hh : h.set a (.inl (.long, n, .inr (.inl (vp_updL f i.toNatClampNeg x)))) = h') (k : xm_X L xs call M (pc', lo, st, h', c, s) Q) : xm_X L xs call M (pc, lo, .long x :: .int i :: .ref a :: st, h, c, s) Q := by
  subst e; subst hh
  exact fun P hP => hP _ _ _ _ _ _ _ _ d ⟨rfl, x, i, a, st, n, f, rfl, ha, hi, k P hP⟩
theorem x_aastore {i : Int32} {v a ci n : Nat} {fs : List Value} {f : Nat → Option Nat} (d : decode (xm_by M) pc = .ok (.aastore, 1)) (e : pc + 1 = pc') (ha : h[a]? = some (.inl (.object tb_rc, n, .inr (.inr (.inr (.inr f)))))) (hc : ∃ q, vwCl[ci]? = some q ∧ q.1 = tb_rc) (hv : h[v]? = some (.inr (ci, fs))) (hi : vp_in i n) (hh : h.set a (.inl (.object tb_rc, n, .inr (.inr (.inr (.inr (va_up f i.toNatClampNeg (some v))))))) = h') (k : xm_X L xs call M (pc', lo, st, h', c, s) Q) : xm_X L xs call M (pc, lo, .ref v :: .int i :: .ref a :: st, h, c, s) Q := by
  subst e; subst hh
  exact fun P hP => hP _ _ _ _ _ _ _ _ d ⟨rfl, v, i, a, st, ci, fs, n, f, rfl, ha, hc, hv, hi, k P hP⟩
theorem x_getfield {j ci a i : Nat} {fs : List Value} {v : Value} (d : decode (xm_by M) pc = .ok (.getfield j, 3)) (e : pc + 3 = pc') (hf : xm_gf (xm_y M).cls j ci i) (ha : h[a]? = some (.inr (ci, fs))) (hv : fs[i]? = some v) (k : xm_X L xs call M (pc', lo, v :: st, h, c, s) Q) : xm_X L xs call M (pc, lo, .ref a :: st, h, c, s) Q := by
  subst e
  obtain ⟨C, T, N, ty, h1, h2, h3⟩ := hf
  exact fun P hP => hP _ _ _ _ _ _ _ _ d ⟨rfl, a, st, ci, i, fs, v, C, T, N, ty, h1, h2, h3, rfl, ha, hv, k P hP⟩
theorem x_putfield {j ci a i : Nat} {fs : List Value} {v : Value} {t : FieldType} (d : decode (xm_by M) pc = .ok (.putfield j, 3)) (e : pc + 3 = pc') (hf : xm_pf (xm_y M) j ci i t) (ha : h[a]? = some (.inr (ci, fs))) (hl : i < fs.length) (hn : narrow t v = v) (hfit : fits t v = true) (hh : h.set a (.inr (ci, fs.set i v)) = h') (k : xm_X L xs call M (pc', lo, st, h', c, s) Q) : xm_X L xs call M (pc, lo, v :: .ref a :: st, h, c, s) Q := by
  subst e; subst hh
  obtain ⟨C, T, N, ty, h1, h2, h3, h4, h5⟩ := hf
  subst h5
  exact fun P hP => hP _ _ _ _ _ _ _ _ d ⟨rfl, v, a, st, ci, i, fs, C, T, N, ty, h1, h2, h3, h4, rfl, ha, hl, hn, hfit, k P hP⟩
theorem x_newarray_int {n : Int32} {N a : Nat} (d : decode (xm_by M) pc = .ok (.newarray .int, 2)) (e : pc + 2 = pc') (hw : Cond.arrayClass .int ∈ tb_all) (hn : ¬ n < 0) (hN : n.toNatClampNeg = N) (hb : N ≤ 65536) (hc : c + 1 ≤ xm_mc M) (hs : s + N ≤ xm_ms M) (ha : h.length = a) (hh : h ++ [.inl (.int, N, .inl (fun _ => 0))] = h') (hc' : c + 1 = c') (hs' : s + N = s') (k : xm_X L xs call M (pc', lo, .ref a :: st, h', c', s') Q) : xm_X L xs call M (pc, lo, .int n :: st, h, c, s) Q := by
  subst e; subst hN; subst ha; subst hh; subst hc'; subst hs'
  exact fun P hP => hP _ _ _ _ _ _ _ _ d ⟨rfl, n, st, rfl, hn, hb, hc, hs, hw, k P hP⟩
theorem x_newarray_long {n : Int32} {N a : Nat} (d : decode (xm_by M) pc = .ok (.newarray .long, 2)) (e : pc + 2 = pc') (hw : Cond.arrayClass .long ∈ tb_all) (hn : ¬ n < 0) (hN : n.toNatClampNeg = N) (hb : N ≤ 65536) (hc : c + 1 ≤ xm_mc M) (hs : s + N ≤ xm_ms M) (ha : h.length = a) (hh : h ++ [.inl (.long, N, .inr (.inl (fun _ => 0)))] = h') (hc' : c + 1 = c') (hs' : s + N = s') (k : xm_X L xs call M (pc', lo, .ref a :: st, h', c', s') Q) : xm_X L xs call M (pc, lo, .int n :: st, h, c, s) Q := by
  subst e; subst hN; subst ha; subst hh; subst hc'; subst hs'
  exact fun P hP => hP _ _ _ _ _ _ _ _ d ⟨rfl, n, st, rfl, hn, hb, hc, hs, hw, k P hP⟩
theorem x_anewarray {j : Nat} {n : Int32} {N a : Nat} (d : decode (xm_by M) pc = .ok (.anewarray j, 3)) (e : pc + 3 = pc') (hw : Cond.classLink (xm_y M).cls j tb_rc ∈ tb_all) (hn : ¬ n < 0) (hN : n.toNatClampNeg = N) (hb : N ≤ 65536) (hc : c + 1 ≤ xm_mc M) (hs : s + N ≤ xm_ms M) (ha : h.length = a) (hh : h ++ [.inl (.object tb_rc, N, .inr (.inr (.inr (.inr (fun _ => none)))))] = h') (hc' : c + 1 = c') (hs' : s + N = s') (k : xm_X L xs call M (pc', lo, .ref a :: st, h', c', s') Q) : xm_X L xs call M (pc, lo, .int n :: st, h, c, s) Q := by
  subst e; subst hN; subst ha; subst hh; subst hc'; subst hs'
  exact fun P hP => hP _ _ _ _ _ _ _ _ d ⟨rfl, n, st, hw, rfl, hn, hb, hc, hs, k P hP⟩
theorem x_multi {j a : Nat} (d : decode (xm_by M) pc = .ok (.multianewarray j 2, 4)) (e : pc + 4 = pc') (hw : Cond.classLink (xm_y M).cls j "[[I" ∈ tb_all) (hc : c + 10 ≤ xm_mc M) (hs : s + 90 ≤ xm_ms M) (ha : h.length = a) (hh : h ++ .inl (.array .int, 9, .inr (.inr (.inr (.inr (fun j => some (a + 1 + j)))))) :: List.replicate 9 (.inl (.int, 9, .inl (fun _ => 0))) = h') (hc' : c + 10 = c') (hs' : s + 90 = s') (k : xm_X L xs call M (pc', lo, .ref a :: st, h', c', s') Q) : xm_X L xs call M (pc, lo, .int 9 :: .int 9 :: st, h, c, s) Q := by
  subst e; subst ha; subst hh; subst hc'; subst hs'
  exact fun P hP => hP _ _ _ _ _ _ _ _ d ⟨rfl, st, rfl, hw, rfl, hc, hs, k P hP⟩
theorem x_new {j ci N a : Nat} {fs : List Value} (d : decode (xm_by M) pc = .ok (.new j, 3)) (e : pc + 3 = pc') (hf : xm_nf (xm_y M).cls j ci N fs) (hc : c + 1 ≤ xm_mc M) (hs : s + N ≤ xm_ms M) (ha : h.length = a) (hh : h ++ [.inr (ci, fs)] = h') (hc' : c + 1 = c') (hs' : s + N = s') (k : xm_X L xs call M (pc', lo, .ref a :: st, h', c', s') Q) : xm_X L xs call M (pc, lo, st, h, c, s) Q := by
  subst e; subst ha; subst hh; subst hc'; subst hs'
  obtain ⟨C, T, ty, h1, h2, h3, h4, h5, h6⟩ := hf
  exact fun P hP => hP _ _ _ _ _ _ _ _ d ⟨rfl, ci, C, T, N, ty, fs, h1, h2, h3, h4, h5, h6, hc, hs, k P hP⟩
theorem x_objInit {j a : Nat} (d : decode (xm_by M) pc = .ok (.invokespecial j, 3)) (e : pc + 3 = pc') (hf : xm_oi (xm_y M).cls j) (hr : xm_sum st ≤ 8) (k : xm_X L xs call M (pc', lo, st, h, c, s) Q) : xm_X L xs call M (pc, lo, .ref a :: st, h, c, s) Q := by
  subst e
  exact fun P hP => hP _ _ _ _ _ _ _ _ d ⟨rfl, Or.inl ⟨hf, a, st, rfl, hr, k P hP⟩⟩
theorem x_mmax {j : Nat} {x y z : Int32} (d : decode (xm_by M) pc = .ok (.invokestatic j, 3)) (e : pc + 3 = pc') (hf : xm_mx (xm_y M).cls j) (hr : xm_sum st ≤ 8) (hz : (if x < y then y else x) = z) (k : xm_X L xs call M (pc', lo, .int z :: st, h, c, s) Q) : xm_X L xs call M (pc, lo, .int y :: .int x :: st, h, c, s) Q := by
  subst e; subst hz
  exact fun P hP => hP _ _ _ _ _ _ _ _ d ⟨rfl, Or.inl ⟨hf, x, y, st, rfl, hr, k P hP⟩⟩
theorem x_static {j n : Nat} {Mj : xm_M} {as r : List Value} {v : Option Value} (d : decode (xm_by M) pc = .ok (.invokestatic j, 3)) (e : pc + 3 = pc') (hf : xm_cs (xm_y M).cls j Mj n) (hst : st = as.reverse ++ r) (hn : as.length = n) (hr : xm_sum r ≤ 8) (hc : c + xm_mc Mj ≤ xm_mc M) (hs : s + xm_ms Mj ≤ xm_ms M) (hcall : ∀ Q', Q' v h' → call Mj as h Q') (hst' : v.toList ++ r = st') (hc' : c + xm_mc Mj = c') (hs' : s + xm_ms Mj = s') (k : xm_X L xs call M (pc', lo, st', h', c', s') Q) : xm_X L xs call M (pc, lo, st, h, c, s) Q := by
  subst e; subst hst; subst hn; subst hst'; subst hc'; subst hs'
  exact fun P hP => hP _ _ _ _ _ _ _ _ d ⟨rfl, Or.inr ⟨Mj, as, hf.1, hf.2.1, hf.2.2.1, hf.2.2.2, r, rfl, hr, hc, hs, hcall _ (k P hP)⟩⟩
theorem x_virtual {j n ci a : Nat} {Mj : xm_M} {as r fs : List Value} {v : Option Value} (d : decode (xm_by M) pc = .ok (.invokevirtual j, 3)) (e : pc + 3 = pc') (hf : xm_cv (xm_y M).cls j Mj n ci) (ha : h[a]? = some (.inr (ci, fs))) (hst : st = (Value.ref a :: as).reverse ++ r) (hn : as.length = n) (hr : xm_sum r ≤ 8) (hc : c + xm_mc Mj ≤ xm_mc M) (hs : s + xm_ms Mj ≤ xm_ms M) (hcall : ∀ Q', Q' v h' → call Mj (.ref a :: as) h Q') (hst' : v.toList ++ r = st') (hc' : c + xm_mc Mj = c') (hs' : s + xm_ms Mj = s') (k : xm_X L xs call M (pc', lo, st', h', c', s') Q) : xm_X L xs call M (pc, lo, st, h, c, s) Q := by
  subst e; subst hst; subst hn; subst hst'; subst hc'; subst hs'
  obtain ⟨h1, h2, h3, h4, h5, C, T, N, ty, h6, h7⟩ := hf
  exact fun P hP => hP _ _ _ _ _ _ _ _ d ⟨rfl, Mj, as, a, ci, fs, C, T, N, ty, h1, h2, h3, h4, h5, h6, h7, ha, r, rfl, hr, hc, hs, hcall _ (k P hP)⟩
theorem x_special {j n a : Nat} {Mj : xm_M} {as r : List Value} {v : Option Value} (d : decode (xm_by M) pc = .ok (.invokespecial j, 3)) (e : pc + 3 = pc') (hf : xm_cn (xm_y M).cls j Mj n) (hst : st = (Value.ref a :: as).reverse ++ r) (hn : as.length = n) (hr : xm_sum r ≤ 8) (hc : c + xm_mc Mj ≤ xm_mc M) (hs : s + xm_ms Mj ≤ xm_ms M) (hcall : ∀ Q', Q' v h' → call Mj (.ref a :: as) h Q') (hst' : v.toList ++ r = st') (hc' : c + xm_mc Mj = c') (hs' : s + xm_ms Mj = s') (k : xm_X L xs call M (pc', lo, st', h', c', s') Q) : xm_X L xs call M (pc, lo, st, h, c, s) Q := by
  subst e; subst hst; subst hn; subst hst'; subst hc'; subst hs'
  exact fun P hP => hP _ _ _ _ _ _ _ _ d ⟨rfl, Or.inr ⟨Mj, as, a, hf.1, hf.2.1, hf.2.2.1, hf.2.2.2.1, hf.2.2.2.2.1, hf.2.2.2.2.2, r, rfl, hr, hc, hs, hcall _ (k P hP)⟩⟩
theorem x_ireturn {x : Int32} {ty : FieldType} (d : decode (xm_by M) pc = .ok (.ireturn, 1)) (hrt : xm_rt M = some ty) (hn : narrow ty (.int x) = .int x) (hq : Q (some (.int x)) h) : xm_X L xs call M (pc, lo, [.int x], h, c, s) Q := fun P hP => hP _ _ _ _ _ _ _ _ d ⟨rfl, x, ty, rfl, hrt, hn, hq⟩
theorem x_lreturn {x : Int64} (d : decode (xm_by M) pc = .ok (.lreturn, 1)) (hrt : xm_rt M = some .long) (hq : Q (some (.long x)) h) : xm_X L xs call M (pc, lo, [.long x], h, c, s) Q := fun P hP => hP _ _ _ _ _ _ _ _ d ⟨rfl, x, rfl, hrt, hq⟩
theorem x_return (d : decode (xm_by M) pc = .ok (.return_, 1)) (hrt : xm_rt M = none) (hq : Q none h) : xm_X L xs call M (pc, lo, [], h, c, s) Q := fun P hP => hP _ _ _ _ _ _ _ _ d ⟨rfl, rfl, hrt, hq⟩
end XU
/-- a call begins -/
theorem x_call {L : Nat} {xs : Nat → Int32} {d : Nat} {M : xm_M} {as lo : List Value} {h : xm_H} {Q : xm_Q} (hl : (xm_lay as).length ≤ xm_ml M) (he : xm_ent (xm_ml M) as = lo) (k : xm_X L xs (xm_call L xs d) M (0, lo, [], h, 0, 0) Q) : xm_call L xs (d + 1) M as h Q := by
  subst he
  exact ⟨hl, k⟩
end
