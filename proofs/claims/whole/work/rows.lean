section
/-- a private method of a class that the tables say can be made, by its rows of tables_1 -/
def lw_okq (q : MethodName × Nat) : Prop := (q.1.cls ≠ "java/lang/invoke/MethodHandle" ∧ q.1.cls ≠ "java/lang/invoke/VarHandle") ∧ Cond.instantiable q.1.cls q.2 ∈ tables_1 ∧ Cond.privateMethod q.1 ∈ tables_1 ∧ Cond.instanceMethod q.1 ∈ tables_1
theorem lw_p0 : lw_okq (⟨"SnapshotVault", "isClean", "(LSnapshotVault$Repository;)Z"⟩, 3) := ⟨⟨by decide +kernel, by decide +kernel⟩, List.mem_of_getElem? (i := 10) (by decide +kernel), List.mem_of_getElem? (i := 171) (by decide +kernel), List.mem_of_getElem? (i := 172) (by decide +kernel)⟩
theorem lw_p1 : lw_okq (⟨"SnapshotVault", "moveTo", "(LSnapshotVault$Repository;I)V"⟩, 3) := ⟨⟨by decide +kernel, by decide +kernel⟩, List.mem_of_getElem? (i := 10) (by decide +kernel), List.mem_of_getElem? (i := 175) (by decide +kernel), List.mem_of_getElem? (i := 176) (by decide +kernel)⟩
theorem lw_p2 : lw_okq (⟨"SnapshotVault", "refusalToChangeHead", "(II)I"⟩, 3) := ⟨⟨by decide +kernel, by decide +kernel⟩, List.mem_of_getElem? (i := 10) (by decide +kernel), List.mem_of_getElem? (i := 187) (by decide +kernel), List.mem_of_getElem? (i := 188) (by decide +kernel)⟩
theorem lw_p3 : lw_okq (⟨"SnapshotVault", "joinCommits", "(II)I"⟩, 3) := ⟨⟨by decide +kernel, by decide +kernel⟩, List.mem_of_getElem? (i := 10) (by decide +kernel), List.mem_of_getElem? (i := 198) (by decide +kernel), List.mem_of_getElem? (i := 199) (by decide +kernel)⟩
theorem lw_p4 : lw_okq (⟨"SnapshotVault$History", "isReachedByLater", "(JI)Z"⟩, 5) := ⟨⟨by decide +kernel, by decide +kernel⟩, List.mem_of_getElem? (i := 18) (by decide +kernel), List.mem_of_getElem? (i := 206) (by decide +kernel), List.mem_of_getElem? (i := 207) (by decide +kernel)⟩
theorem lw_p5 : lw_okq (⟨"SnapshotVault$Uniter", "uniteTexts", "(JJJ)J"⟩, 4) := ⟨⟨by decide +kernel, by decide +kernel⟩, List.mem_of_getElem? (i := 72) (by decide +kernel), List.mem_of_getElem? (i := 221) (by decide +kernel), List.mem_of_getElem? (i := 222) (by decide +kernel)⟩
theorem lw_p6 : lw_okq (⟨"SnapshotVault$Uniter", "countCommon", "(JJ)V"⟩, 4) := ⟨⟨by decide +kernel, by decide +kernel⟩, List.mem_of_getElem? (i := 72) (by decide +kernel), List.mem_of_getElem? (i := 225) (by decide +kernel), List.mem_of_getElem? (i := 226) (by decide +kernel)⟩
theorem lw_p7 : lw_okq (⟨"SnapshotVault$Uniter", "matchLines", "(JJ[I)V"⟩, 4) := ⟨⟨by decide +kernel, by decide +kernel⟩, List.mem_of_getElem? (i := 72) (by decide +kernel), List.mem_of_getElem? (i := 239) (by decide +kernel), List.mem_of_getElem? (i := 240) (by decide +kernel)⟩
theorem lw_p8 : lw_okq (⟨"SnapshotVault", "isHeld", "(LSnapshotVault$Repository;I)Z"⟩, 3) := ⟨⟨by decide +kernel, by decide +kernel⟩, List.mem_of_getElem? (i := 10) (by decide +kernel), List.mem_of_getElem? (i := 257) (by decide +kernel), List.mem_of_getElem? (i := 258) (by decide +kernel)⟩
theorem lw_p9 : lw_okq (⟨"SnapshotVault", "doAgain", "(II)I"⟩, 3) := ⟨⟨by decide +kernel, by decide +kernel⟩, List.mem_of_getElem? (i := 10) (by decide +kernel), List.mem_of_getElem? (i := 263) (by decide +kernel), List.mem_of_getElem? (i := 264) (by decide +kernel)⟩
theorem lw_p10 : lw_okq (⟨"SnapshotVault", "doAllAgain", "(JI)I"⟩, 3) := ⟨⟨by decide +kernel, by decide +kernel⟩, List.mem_of_getElem? (i := 10) (by decide +kernel), List.mem_of_getElem? (i := 280) (by decide +kernel), List.mem_of_getElem? (i := 281) (by decide +kernel)⟩
theorem lw_p11 : lw_okq (⟨"SnapshotVaultModel", "sameAsHead", "([JI)Z"⟩, 19) := ⟨⟨by decide +kernel, by decide +kernel⟩, List.mem_of_getElem? (i := 339) (by decide +kernel), List.mem_of_getElem? (i := 424) (by decide +kernel), List.mem_of_getElem? (i := 425) (by decide +kernel)⟩
theorem lw_p12 : lw_okq (⟨"SnapshotVaultModel", "head", "(I)I"⟩, 19) := ⟨⟨by decide +kernel, by decide +kernel⟩, List.mem_of_getElem? (i := 339) (by decide +kernel), List.mem_of_getElem? (i := 428) (by decide +kernel), List.mem_of_getElem? (i := 429) (by decide +kernel)⟩
theorem lw_p13 : lw_okq (⟨"SnapshotVaultModel", "textOf", "(II)J"⟩, 19) := ⟨⟨by decide +kernel, by decide +kernel⟩, List.mem_of_getElem? (i := 339) (by decide +kernel), List.mem_of_getElem? (i := 432) (by decide +kernel), List.mem_of_getElem? (i := 433) (by decide +kernel)⟩
theorem lw_p14 : lw_okq (⟨"SnapshotVaultModel", "make", "(III)I"⟩, 19) := ⟨⟨by decide +kernel, by decide +kernel⟩, List.mem_of_getElem? (i := 339) (by decide +kernel), List.mem_of_getElem? (i := 436) (by decide +kernel), List.mem_of_getElem? (i := 437) (by decide +kernel)⟩
theorem lw_p15 : lw_okq (⟨"SnapshotVaultModel", "there", "(II)Z"⟩, 19) := ⟨⟨by decide +kernel, by decide +kernel⟩, List.mem_of_getElem? (i := 339) (by decide +kernel), List.mem_of_getElem? (i := 444) (by decide +kernel), List.mem_of_getElem? (i := 445) (by decide +kernel)⟩
def lw_privs_1 : List (MethodName × Nat) := [(⟨"SnapshotVault", "isClean", "(LSnapshotVault$Repository;)Z"⟩, 3), (⟨"SnapshotVault", "moveTo", "(LSnapshotVault$Repository;I)V"⟩, 3), (⟨"SnapshotVault", "refusalToChangeHead", "(II)I"⟩, 3), (⟨"SnapshotVault", "joinCommits", "(II)I"⟩, 3), (⟨"SnapshotVault$History", "isReachedByLater", "(JI)Z"⟩, 5), (⟨"SnapshotVault$Uniter", "uniteTexts", "(JJJ)J"⟩, 4), (⟨"SnapshotVault$Uniter", "countCommon", "(JJ)V"⟩, 4), (⟨"SnapshotVault$Uniter", "matchLines", "(JJ[I)V"⟩, 4), (⟨"SnapshotVault", "isHeld", "(LSnapshotVault$Repository;I)Z"⟩, 3), (⟨"SnapshotVault", "doAgain", "(II)I"⟩, 3), (⟨"SnapshotVault", "doAllAgain", "(JI)I"⟩, 3), (⟨"SnapshotVaultModel", "sameAsHead", "([JI)Z"⟩, 19), (⟨"SnapshotVaultModel", "head", "(I)I"⟩, 19), (⟨"SnapshotVaultModel", "textOf", "(II)J"⟩, 19), (⟨"SnapshotVaultModel", "make", "(III)I"⟩, 19), (⟨"SnapshotVaultModel", "there", "(II)Z"⟩, 19)]
theorem lw_r1 : ∀ q ∈ lw_privs_1, lw_okq q := List.forall_mem_cons.mpr ⟨lw_p0, List.forall_mem_cons.mpr ⟨lw_p1, List.forall_mem_cons.mpr ⟨lw_p2, List.forall_mem_cons.mpr ⟨lw_p3, List.forall_mem_cons.mpr ⟨lw_p4, List.forall_mem_cons.mpr ⟨lw_p5, List.forall_mem_cons.mpr ⟨lw_p6, List.forall_mem_cons.mpr ⟨lw_p7, List.forall_mem_cons.mpr ⟨lw_p8, List.forall_mem_cons.mpr ⟨lw_p9, List.forall_mem_cons.mpr ⟨lw_p10, List.forall_mem_cons.mpr ⟨lw_p11, List.forall_mem_cons.mpr ⟨lw_p12, List.forall_mem_cons.mpr ⟨lw_p13, List.forall_mem_cons.mpr ⟨lw_p14, List.forall_mem_cons.mpr ⟨lw_p15, fun _ h => absurd h List.not_mem_nil⟩⟩⟩⟩⟩⟩⟩⟩⟩⟩⟩⟩⟩⟩⟩⟩
theorem lw_p16 : lw_okq (⟨"SnapshotVaultModel", "dirty", "(I)Z"⟩, 19) := ⟨⟨by decide +kernel, by decide +kernel⟩, List.mem_of_getElem? (i := 339) (by decide +kernel), List.mem_of_getElem? (i := 456) (by decide +kernel), List.mem_of_getElem? (i := 457) (by decide +kernel)⟩
theorem lw_p17 : lw_okq (⟨"SnapshotVaultModel", "moveTo", "(II)I"⟩, 19) := ⟨⟨by decide +kernel, by decide +kernel⟩, List.mem_of_getElem? (i := 339) (by decide +kernel), List.mem_of_getElem? (i := 460) (by decide +kernel), List.mem_of_getElem? (i := 461) (by decide +kernel)⟩
theorem lw_p18 : lw_okq (⟨"SnapshotVaultModel", "reaches", "(II)Z"⟩, 19) := ⟨⟨by decide +kernel, by decide +kernel⟩, List.mem_of_getElem? (i := 339) (by decide +kernel), List.mem_of_getElem? (i := 468) (by decide +kernel), List.mem_of_getElem? (i := 469) (by decide +kernel)⟩
theorem lw_p19 : lw_okq (⟨"SnapshotVaultModel", "reached", "(I)J"⟩, 19) := ⟨⟨by decide +kernel, by decide +kernel⟩, List.mem_of_getElem? (i := 339) (by decide +kernel), List.mem_of_getElem? (i := 472) (by decide +kernel), List.mem_of_getElem? (i := 473) (by decide +kernel)⟩
theorem lw_p20 : lw_okq (⟨"SnapshotVaultModel", "baseOf", "(II)I"⟩, 19) := ⟨⟨by decide +kernel, by decide +kernel⟩, List.mem_of_getElem? (i := 339) (by decide +kernel), List.mem_of_getElem? (i := 476) (by decide +kernel), List.mem_of_getElem? (i := 477) (by decide +kernel)⟩
theorem lw_p21 : lw_okq (⟨"SnapshotVaultModel", "unite", "()Z"⟩, 19) := ⟨⟨by decide +kernel, by decide +kernel⟩, List.mem_of_getElem? (i := 339) (by decide +kernel), List.mem_of_getElem? (i := 480) (by decide +kernel), List.mem_of_getElem? (i := 481) (by decide +kernel)⟩
theorem lw_p22 : lw_okq (⟨"SnapshotVaultModel", "uniteTexts", "(JJJ)J"⟩, 19) := ⟨⟨by decide +kernel, by decide +kernel⟩, List.mem_of_getElem? (i := 339) (by decide +kernel), List.mem_of_getElem? (i := 485) (by decide +kernel), List.mem_of_getElem? (i := 486) (by decide +kernel)⟩
theorem lw_p23 : lw_okq (⟨"SnapshotVaultModel", "matched", "(JJI)I"⟩, 19) := ⟨⟨by decide +kernel, by decide +kernel⟩, List.mem_of_getElem? (i := 339) (by decide +kernel), List.mem_of_getElem? (i := 492) (by decide +kernel), List.mem_of_getElem? (i := 493) (by decide +kernel)⟩
theorem lw_p24 : lw_okq (⟨"SnapshotVaultModel", "subsequences", "(JJ)V"⟩, 19) := ⟨⟨by decide +kernel, by decide +kernel⟩, List.mem_of_getElem? (i := 339) (by decide +kernel), List.mem_of_getElem? (i := 496) (by decide +kernel), List.mem_of_getElem? (i := 497) (by decide +kernel)⟩
theorem lw_p25 : lw_okq (⟨"SnapshotVaultModel", "take", "(JII)V"⟩, 19) := ⟨⟨by decide +kernel, by decide +kernel⟩, List.mem_of_getElem? (i := 339) (by decide +kernel), List.mem_of_getElem? (i := 506) (by decide +kernel), List.mem_of_getElem? (i := 507) (by decide +kernel)⟩
theorem lw_p26 : lw_okq (⟨"SnapshotVaultModel", "putJoined", "(I)V"⟩, 19) := ⟨⟨by decide +kernel, by decide +kernel⟩, List.mem_of_getElem? (i := 339) (by decide +kernel), List.mem_of_getElem? (i := 510) (by decide +kernel), List.mem_of_getElem? (i := 511) (by decide +kernel)⟩
theorem lw_p27 : lw_okq (⟨"SnapshotVaultModel", "again", "(I)Z"⟩, 19) := ⟨⟨by decide +kernel, by decide +kernel⟩, List.mem_of_getElem? (i := 339) (by decide +kernel), List.mem_of_getElem? (i := 518) (by decide +kernel), List.mem_of_getElem? (i := 519) (by decide +kernel)⟩
theorem lw_p28 : lw_okq (⟨"SnapshotVaultModel", "changedNothing", "()Z"⟩, 19) := ⟨⟨by decide +kernel, by decide +kernel⟩, List.mem_of_getElem? (i := 339) (by decide +kernel), List.mem_of_getElem? (i := 522) (by decide +kernel), List.mem_of_getElem? (i := 523) (by decide +kernel)⟩
theorem lw_p29 : lw_okq (⟨"SnapshotVaultModel", "replay", "(J)I"⟩, 19) := ⟨⟨by decide +kernel, by decide +kernel⟩, List.mem_of_getElem? (i := 339) (by decide +kernel), List.mem_of_getElem? (i := 531) (by decide +kernel), List.mem_of_getElem? (i := 532) (by decide +kernel)⟩
def lw_privs_2 : List (MethodName × Nat) := [(⟨"SnapshotVaultModel", "dirty", "(I)Z"⟩, 19), (⟨"SnapshotVaultModel", "moveTo", "(II)I"⟩, 19), (⟨"SnapshotVaultModel", "reaches", "(II)Z"⟩, 19), (⟨"SnapshotVaultModel", "reached", "(I)J"⟩, 19), (⟨"SnapshotVaultModel", "baseOf", "(II)I"⟩, 19), (⟨"SnapshotVaultModel", "unite", "()Z"⟩, 19), (⟨"SnapshotVaultModel", "uniteTexts", "(JJJ)J"⟩, 19), (⟨"SnapshotVaultModel", "matched", "(JJI)I"⟩, 19), (⟨"SnapshotVaultModel", "subsequences", "(JJ)V"⟩, 19), (⟨"SnapshotVaultModel", "take", "(JII)V"⟩, 19), (⟨"SnapshotVaultModel", "putJoined", "(I)V"⟩, 19), (⟨"SnapshotVaultModel", "again", "(I)Z"⟩, 19), (⟨"SnapshotVaultModel", "changedNothing", "()Z"⟩, 19), (⟨"SnapshotVaultModel", "replay", "(J)I"⟩, 19)]
theorem lw_r2 : ∀ q ∈ lw_privs_2, lw_okq q := List.forall_mem_cons.mpr ⟨lw_p16, List.forall_mem_cons.mpr ⟨lw_p17, List.forall_mem_cons.mpr ⟨lw_p18, List.forall_mem_cons.mpr ⟨lw_p19, List.forall_mem_cons.mpr ⟨lw_p20, List.forall_mem_cons.mpr ⟨lw_p21, List.forall_mem_cons.mpr ⟨lw_p22, List.forall_mem_cons.mpr ⟨lw_p23, List.forall_mem_cons.mpr ⟨lw_p24, List.forall_mem_cons.mpr ⟨lw_p25, List.forall_mem_cons.mpr ⟨lw_p26, List.forall_mem_cons.mpr ⟨lw_p27, List.forall_mem_cons.mpr ⟨lw_p28, List.forall_mem_cons.mpr ⟨lw_p29, fun _ h => absurd h List.not_mem_nil⟩⟩⟩⟩⟩⟩⟩⟩⟩⟩⟩⟩⟩⟩
def lw_privs : List (MethodName × Nat) := lw_privs_1 ++ (lw_privs_2)
def lw_tbl : List Cond := k2_sels lw_privs ++ tables_1
theorem lw_privs_ok : ∀ q ∈ lw_privs, lw_okq q := by
  show ∀ q ∈ lw_privs_1 ++ (lw_privs_2), lw_okq q
  exact List.forall_mem_append.mpr ⟨lw_r1, lw_r2⟩
end
section
/-! Names: the classes whose objects the heap holds, their fields. (Printed by gen_names.py.) -/
abbrev tb_rc : String := "SnapshotVault$Repository"
def tn_H : u_T := fun k => match k with
  | 0 => ("SnapshotVault$History", "texts", "[J", true)
  | 1 => ("SnapshotVault$History", "firstParents", "[I", true)
  | 2 => ("SnapshotVault$History", "secondParents", "[I", true)
  | 3 => ("SnapshotVault$History", "reached", "[J", true)
  | _ => ("SnapshotVault$History", "size", "I", false)
def ty_H : Nat → FieldType := fun k => match k with
  | 0 => .array .long
  | 1 => .array .int
  | 2 => .array .int
  | 3 => .array .long
  | _ => .int
def tn_R : u_T := fun k => match k with
  | 0 => ("SnapshotVault$Repository", "tips", "[I", true)
  | 1 => ("SnapshotVault$Repository", "working", "[J", true)
  | 2 => ("SnapshotVault$Repository", "index", "[J", true)
  | 3 => ("SnapshotVault$Repository", "held", "J", false)
  | _ => ("SnapshotVault$Repository", "current", "I", false)
def ty_R : Nat → FieldType := fun k => match k with
  | 0 => .array .int
  | 1 => .array .long
  | 2 => .array .long
  | 3 => .long
  | _ => .int
def tn_U : u_T := fun k => match k with
  | 0 => ("SnapshotVault$Uniter", "united", "[J", true)
  | 1 => ("SnapshotVault$Uniter", "firstPartners", "[I", true)
  | 2 => ("SnapshotVault$Uniter", "secondPartners", "[I", true)
  | _ => ("SnapshotVault$Uniter", "common", "[[I", true)
def ty_U : Nat → FieldType := fun k => match k with
  | 0 => .array .long
  | 1 => .array .int
  | 2 => .array .int
  | _ => .array (.array .int)
def tn_V : u_T := fun k => match k with
  | 0 => ("SnapshotVault", "history", "LSnapshotVault$History;", true)
  | 1 => ("SnapshotVault", "repositories", "[LSnapshotVault$Repository;", true)
  | _ => ("SnapshotVault", "uniter", "LSnapshotVault$Uniter;", true)
def ty_V : Nat → FieldType := fun k => match k with
  | 0 => .object "SnapshotVault$History"
  | 1 => .array (.object "SnapshotVault$Repository")
  | _ => .object "SnapshotVault$Uniter"
def tn_M : u_T := fun k => match k with
  | 0 => ("SnapshotVaultModel", "made", "I", false)
  | 1 => ("SnapshotVaultModel", "texts", "[J", true)
  | 2 => ("SnapshotVaultModel", "first", "[I", true)
  | 3 => ("SnapshotVaultModel", "second", "[I", true)
  | 4 => ("SnapshotVaultModel", "held", "[J", true)
  | 5 => ("SnapshotVaultModel", "tips", "[I", true)
  | 6 => ("SnapshotVaultModel", "now", "[I", true)
  | 7 => ("SnapshotVaultModel", "work", "[J", true)
  | 8 => ("SnapshotVaultModel", "index", "[J", true)
  | 9 => ("SnapshotVaultModel", "origin", "[J", true)
  | 10 => ("SnapshotVaultModel", "ours", "[J", true)
  | 11 => ("SnapshotVaultModel", "theirs", "[J", true)
  | 12 => ("SnapshotVaultModel", "joined", "[J", true)
  | 13 => ("SnapshotVaultModel", "withA", "[I", true)
  | 14 => ("SnapshotVaultModel", "withB", "[I", true)
  | 15 => ("SnapshotVaultModel", "common", "[I", true)
  | 16 => ("SnapshotVaultModel", "taken", "I", false)
  | 17 => ("SnapshotVaultModel", "lines", "[I", true)
  | _ => ("SnapshotVaultModel", "steps", "[J", true)
def ty_M : Nat → FieldType := fun k => match k with
  | 0 => .int
  | 1 => .array .long
  | 2 => .array .int
  | 3 => .array .int
  | 4 => .array .long
  | 5 => .array .int
  | 6 => .array .int
  | 7 => .array .long
  | 8 => .array .long
  | 9 => .array .long
  | 10 => .array .long
  | 11 => .array .long
  | 12 => .array .long
  | 13 => .array .int
  | 14 => .array .int
  | 15 => .array .int
  | 16 => .int
  | 17 => .array .int
  | _ => .array .long
abbrev vwCl : List vw_C := [("SnapshotVault$History", tn_H, 5), ("SnapshotVault$Repository", tn_R, 5), ("SnapshotVault$Uniter", tn_U, 4), ("SnapshotVault", tn_V, 3), ("SnapshotVaultModel", tn_M, 19)]
end
section
/-! A small machine over a list heap: what a method's bytecode does, as a predicate transformer.
Values: .int, .long, .null, .ref k (the k-th cell of the list heap), .retAddr 0 (the script, which no method writes); .float 0 fills unset locals and the second half of a long. -/
def xm_isn : Cond → Bool
  | .fieldLinkNest _ _ _ _ _ _ => true
  | .methodLinkNest _ _ _ _ => true
  | _ => false
def tb_all : List Cond := lw_tbl.filter goodWord
def tb_nest : List Cond := lw_tbl.filter xm_isn
theorem tb_in {w : Cond} (h : w ∈ lw_tbl) (g : goodWord w = true) : w ∈ tb_all := List.mem_filter.mpr ⟨h, g⟩
theorem tb_nin {w : Cond} (h : w ∈ lw_tbl) (g : xm_isn w = true) : w ∈ tb_nest := List.mem_filter.mpr ⟨h, g⟩
theorem tb_good {w : Cond} (hw : w ∈ tb_all) : GoodIn tb_all (w :: tb_all) := fun v h => by
  have hv : v ∈ tb_all := by
    rcases List.mem_cons.mp h with rfl | h
    · exact hw
    · exact h
  exact ⟨hv, good_of_word (List.mem_filter.mp hv).2⟩
abbrev xm_C : Type := (FieldType × vp_A) ⊕ (Nat × List Value)
abbrev xm_H : Type := List xm_C
/-- a method: name, code, locals, what it answers, the cells and slots that a call of it may make -/
abbrev xm_M : Type := MethodName × ByteArray × Nat × Option FieldType × Nat × Nat
abbrev xm_y (M : xm_M) : MethodName := M.1
abbrev xm_by (M : xm_M) : ByteArray := M.2.1
abbrev xm_ml (M : xm_M) : Nat := M.2.2.1
abbrev xm_rt (M : xm_M) : Option FieldType := M.2.2.2.1
abbrev xm_mc (M : xm_M) : Nat := M.2.2.2.2.1
abbrev xm_ms (M : xm_M) : Nat := M.2.2.2.2.2
/-- pc, locals, stack, heap, cells made so far, slots made so far -/
abbrev xm_S : Type := Nat × List Value × List Value × xm_H × Nat × Nat
abbrev xm_Q : Type := Option Value → xm_H → Prop
abbrev xm_K : Type := xm_M → List Value → xm_H → xm_Q → Prop
abbrev xm_J : Type := xm_S → Prop
def xm_sum (st : List Value) : Nat := (st.map fun v => v.category).sum
/-- the words that a method's own call needs -/
def xm_ok (M : xm_M) : Prop := Cond.code (xm_y M) (xm_by M) (xm_ml M) (xm_rt M) ∈ tb_all ∧ Cond.initialized (xm_y M).cls ∈ tb_all ∧ plainName (xm_y M).cls = true ∧ ((xm_y M).cls ≠ "java/lang/invoke/MethodHandle" ∧ (xm_y M).cls ≠ "java/lang/invoke/VarHandle") ∧ xm_ml M ≤ 29
def xm_lk (own : String) (k : Nat) (y : MethodName) : Prop := Cond.methodLink own k y ∈ tb_all ∨ ∃ host, Cond.methodLinkNest own k y host ∈ tb_nest
def xm_fk (own : String) (k : Nat) (q : String × String × String × Bool) : Prop := Cond.fieldLink own k q.1 q.2.1 q.2.2.1 ∈ tb_all ∨ ∃ host, Cond.fieldLinkNest own k q.1 q.2.1 q.2.2.1 host ∈ tb_nest
def xm_np (y : MethodName) (n : Nat) : Prop := (parseMethodDescriptor y.desc).map (fun d => d.parameters.length) = some n
/-- a class whose objects the heap holds -/
def xm_cl (ci : Nat) (C : String) (T : u_T) (N : Nat) (ty : Nat → FieldType) : Prop := vwCl[ci]? = some (C, T, N) ∧ (∀ w ∈ u_ws C T N, w ∈ tb_all) ∧ (∀ k, k < N → parseFieldDescriptor (T k).2.2.1 = some (ty k)) ∧ (∀ a, a < N → ∀ b, b < N → a ≠ b → (T a).2.1 ≠ (T b).2.1)
def xm_oi (own : String) (k : Nat) : Prop := Cond.methodLink own k Lib.objectInit ∈ tb_all ∧ Cond.instanceMethod Lib.objectInit ∈ tb_all ∧ Cond.code Lib.objectInit ⟨#[0xb1]⟩ 1 none ∈ tb_all
def xm_mx (own : String) (k : Nat) : Prop := Cond.methodLink own k Lib.Math.max.name ∈ tb_all ∧ Cond.static Lib.Math.max.name ∈ tb_all ∧ Cond.initialized "java/lang/Math" ∈ tb_all ∧ Cond.code Lib.Math.max.name Lib.Math.max.code 2 (some .int) ∈ tb_all
def xm_plain : Value → Bool
  | .int _ => true
  | .long _ => true
  | .null => true
  | _ => false
def xm_isr (v : Value) : Prop := (∃ k, v = .ref k) ∨ v = .retAddr 0
/-- a call of method M with the arguments as on the stack -/
def xm_inv (call : xm_K) (mi M : xm_M) (pc : Nat) (lo st as : List Value) (h : xm_H) (c s : Nat) (K : xm_J) : Prop :=
  ∃ r, st = as.reverse ++ r ∧ xm_sum r ≤ 8 ∧ c + xm_mc M ≤ xm_mc mi ∧ s + xm_ms M ≤ xm_ms mi ∧
    call M as h (fun v h' => K (pc + 3, lo, v.toList ++ r, h', c + xm_mc M, s + xm_ms M))
def xm_op (L : Nat) (xs : Nat → Int32) (call : xm_K) (mi : xm_M) (i : Instr) (len pc : Nat) (lo st : List Value) (h : xm_H) (c s : Nat) (K : xm_J) (Q : xm_Q) : Prop :=
  match i with
  | .iconst n => len = 1 ∧ K (pc + 1, lo, .int (Int32.ofInt n) :: st, h, c, s)
  | .bipush n => len = 2 ∧ K (pc + 2, lo, .int (Int8.ofInt n).toInt32 :: st, h, c, s)
  | .sipush n => len = 3 ∧ K (pc + 3, lo, .int (Int16.ofInt n).toInt32 :: st, h, c, s)
  | .lconst n => len = 1 ∧ K (pc + 1, lo, .long (Int64.ofNat (n : Nat)) :: st, h, c, s)
  | .ldc2_w k => len = 3 ∧ ∃ x, Cond.constantLong (xm_y mi).cls k x ∈ tb_all ∧ K (pc + 3, lo, .long x :: st, h, c, s)
  | .iload_n n => len = 1 ∧ ∃ x, lo[(n : Nat)]? = some (.int x) ∧ K (pc + 1, lo, .int x :: st, h, c, s)
  | .iload n => len = 2 ∧ ∃ x, lo[n]? = some (.int x) ∧ K (pc + 2, lo, .int x :: st, h, c, s)
  | .lload_n n => len = 1 ∧ ∃ x z, lo[(n : Nat)]? = some (.long x) ∧ lo[(n : Nat) + 1]? = some (.float z) ∧ K (pc + 1, lo, .long x :: st, h, c, s)
  | .lload n => len = 2 ∧ ∃ x z, lo[n]? = some (.long x) ∧ lo[n + 1]? = some (.float z) ∧ K (pc + 2, lo, .long x :: st, h, c, s)
  | .aload_n n => len = 1 ∧ ∃ v, lo[(n : Nat)]? = some v ∧ xm_isr v ∧ K (pc + 1, lo, v :: st, h, c, s)
  | .aload n => len = 2 ∧ ∃ v, lo[n]? = some v ∧ xm_isr v ∧ K (pc + 2, lo, v :: st, h, c, s)
  | .istore_n n => len = 1 ∧ ∃ x r, st = .int x :: r ∧ (n : Nat) < lo.length ∧ K (pc + 1, lo.set n (.int x), r, h, c, s)
  | .istore n => len = 2 ∧ ∃ x r, st = .int x :: r ∧ n < lo.length ∧ K (pc + 2, lo.set n (.int x), r, h, c, s)
  | .lstore_n n => len = 1 ∧ ∃ x r, st = .long x :: r ∧ (n : Nat) + 1 < lo.length ∧ K (pc + 1, (lo.set n (.long x)).set (n + 1) (.float 0), r, h, c, s)
  | .lstore n => len = 2 ∧ ∃ x r, st = .long x :: r ∧ n + 1 < lo.length ∧ K (pc + 2, (lo.set n (.long x)).set (n + 1) (.float 0), r, h, c, s)
  | .astore_n n => len = 1 ∧ ∃ k r, st = .ref k :: r ∧ (n : Nat) < lo.length ∧ K (pc + 1, lo.set n (.ref k), r, h, c, s)
  | .astore n => len = 2 ∧ ∃ k r, st = .ref k :: r ∧ n < lo.length ∧ K (pc + 2, lo.set n (.ref k), r, h, c, s)
  | .iinc n k => len = 3 ∧ ∃ x, lo[n]? = some (.int x) ∧ K (pc + 3, lo.set n (.int (x + Int32.ofInt k)), st, h, c, s)
  | .iadd => len = 1 ∧ ∃ x y r, st = .int y :: .int x :: r ∧ K (pc + 1, lo, .int (x + y) :: r, h, c, s)
  | .isub => len = 1 ∧ ∃ x y r, st = .int y :: .int x :: r ∧ K (pc + 1, lo, .int (x - y) :: r, h, c, s)
  | .imul => len = 1 ∧ ∃ x y r, st = .int y :: .int x :: r ∧ K (pc + 1, lo, .int (x * y) :: r, h, c, s)
  | .iand => len = 1 ∧ ∃ x y r, st = .int y :: .int x :: r ∧ K (pc + 1, lo, .int (x &&& y) :: r, h, c, s)
  | .ladd => len = 1 ∧ ∃ x y r, st = .long y :: .long x :: r ∧ K (pc + 1, lo, .long (x + y) :: r, h, c, s)
  | .lsub => len = 1 ∧ ∃ x y r, st = .long y :: .long x :: r ∧ K (pc + 1, lo, .long (x - y) :: r, h, c, s)
  | .land => len = 1 ∧ ∃ x y r, st = .long y :: .long x :: r ∧ K (pc + 1, lo, .long (x &&& y) :: r, h, c, s)
  | .lor => len = 1 ∧ ∃ x y r, st = .long y :: .long x :: r ∧ K (pc + 1, lo, .long (x ||| y) :: r, h, c, s)
  | .lxor => len = 1 ∧ ∃ x y r, st = .long y :: .long x :: r ∧ K (pc + 1, lo, .long (x ^^^ y) :: r, h, c, s)
  | .lshl => len = 1 ∧ ∃ (x : Int64) (y : Int32) (r : List Value), st = .int y :: .long x :: r ∧ K (pc + 1, lo, .long (x <<< (y.toInt64 &&& 63)) :: r, h, c, s)
  | .lshr => len = 1 ∧ ∃ (x : Int64) (y : Int32) (r : List Value), st = .int y :: .long x :: r ∧ K (pc + 1, lo, .long (x >>> (y.toInt64 &&& 63)) :: r, h, c, s)
  | .lushr => len = 1 ∧ ∃ (x : Int64) (y : Int32) (r : List Value), st = .int y :: .long x :: r ∧ K (pc + 1, lo, .long (x.toUInt64 >>> (y.toInt64.toUInt64 &&& Int64.toUInt64 63)).toInt64 :: r, h, c, s)
  | .i2l => len = 1 ∧ ∃ (x : Int32) (r : List Value), st = .int x :: r ∧ K (pc + 1, lo, .long x.toInt64 :: r, h, c, s)
  | .l2i => len = 1 ∧ ∃ (x : Int64) (r : List Value), st = .long x :: r ∧ K (pc + 1, lo, .int x.toInt32 :: r, h, c, s)
  | .lcmp => len = 1 ∧ ∃ x y r, st = .long y :: .long x :: r ∧ K (pc + 1, lo, .int (lg_cmp x y) :: r, h, c, s)
  | .dup => len = 1 ∧ ∃ v r, st = v :: r ∧ v.category = 1 ∧ K (pc + 1, lo, v :: v :: r, h, c, s)
  | .pop => len = 1 ∧ ∃ v r, st = v :: r ∧ v.category = 1 ∧ K (pc + 1, lo, r, h, c, s)
  | .ifCond o off => len = 3 ∧ ∃ (t : Nat) (x : Int32) (r : List Value), (pc : Int) + off = (t : Int) ∧ st = .int x :: r ∧ (match o with
    | .eq => (x = 0 → K (t, lo, r, h, c, s)) ∧ (¬ x = 0 → K (pc + 3, lo, r, h, c, s))
    | .ne => (¬ x = 0 → K (t, lo, r, h, c, s)) ∧ (x = 0 → K (pc + 3, lo, r, h, c, s))
    | .lt => (x < 0 → K (t, lo, r, h, c, s)) ∧ (¬ x < 0 → K (pc + 3, lo, r, h, c, s))
    | .ge => (0 ≤ x → K (t, lo, r, h, c, s)) ∧ (¬ 0 ≤ x → K (pc + 3, lo, r, h, c, s))
    | .gt => (0 < x → K (t, lo, r, h, c, s)) ∧ (¬ 0 < x → K (pc + 3, lo, r, h, c, s))
    | .le => (x ≤ 0 → K (t, lo, r, h, c, s)) ∧ (¬ x ≤ 0 → K (pc + 3, lo, r, h, c, s)))
  | .if_icmp o off => len = 3 ∧ ∃ (t : Nat) (x y : Int32) (r : List Value), (pc : Int) + off = (t : Int) ∧ st = .int y :: .int x :: r ∧ (match o with
    | .eq => (x = y → K (t, lo, r, h, c, s)) ∧ (¬ x = y → K (pc + 3, lo, r, h, c, s))
    | .ne => (¬ x = y → K (t, lo, r, h, c, s)) ∧ (x = y → K (pc + 3, lo, r, h, c, s))
    | .lt => (x < y → K (t, lo, r, h, c, s)) ∧ (¬ x < y → K (pc + 3, lo, r, h, c, s))
    | .ge => (y ≤ x → K (t, lo, r, h, c, s)) ∧ (¬ y ≤ x → K (pc + 3, lo, r, h, c, s))
    | .gt => (y < x → K (t, lo, r, h, c, s)) ∧ (¬ y < x → K (pc + 3, lo, r, h, c, s))
    | .le => (x ≤ y → K (t, lo, r, h, c, s)) ∧ (¬ x ≤ y → K (pc + 3, lo, r, h, c, s)))
  | .goto off => len = 3 ∧ ∃ t : Nat, (pc : Int) + off = (t : Int) ∧ K (t, lo, st, h, c, s)
  | .tableswitch d0 l0 h0 offs => ∃ x r, st = .int x :: r ∧ ∃ tg : Nat, (((x.toInt < l0 ∨ h0 < x.toInt) ∧ (pc : Int) + d0 = (tg : Int)) ∨ (¬ x.toInt < l0 ∧ ¬ h0 < x.toInt ∧ ∃ off, offs[(x.toInt - l0).toNat]? = some off ∧ (pc : Int) + off = (tg : Int))) ∧ K (tg, lo, r, h, c, s)
  | .arraylength => len = 1 ∧ ∃ r, st = .retAddr 0 :: r ∧ K (pc + 1, lo, .int (Int32.ofNat L) :: r, h, c, s)
  | .iaload => len = 1 ∧ ((∃ i r, st = .int i :: .retAddr 0 :: r ∧ vp_in i L ∧ K (pc + 1, lo, .int (xs i.toNatClampNeg) :: r, h, c, s)) ∨
      ∃ i a r n f, st = .int i :: .ref a :: r ∧ h[a]? = some (.inl (.int, n, .inl f)) ∧ vp_in i n ∧ K (pc + 1, lo, .int (f i.toNatClampNeg) :: r, h, c, s))
  | .laload => len = 1 ∧ ∃ i a r n f, st = .int i :: .ref a :: r ∧ h[a]? = some (.inl (.long, n, .inr (.inl f))) ∧ vp_in i n ∧ K (pc + 1, lo, .long (f i.toNatClampNeg) :: r, h, c, s)
  | .aaload => len = 1 ∧ ∃ i a r ty n f q, st = .int i :: .ref a :: r ∧ h[a]? = some (.inl (ty, n, .inr (.inr (.inr (.inr f))))) ∧ (ty = .array .int ∨ ty = .object tb_rc) ∧ vp_in i n ∧ f i.toNatClampNeg = some q ∧ K (pc + 1, lo, .ref q :: r, h, c, s)
  | .iastore => len = 1 ∧ ∃ x i a r n f, st = .int x :: .int i :: .ref a :: r ∧ h[a]? = some (.inl (.int, n, .inl f)) ∧ vp_in i n ∧ K (pc + 1, lo, r, h.set a (.inl (.int, n, .inl (upd f i.toNatClampNeg x))), c, s)
  | .lastore => len = 1 ∧ ∃ x i a r n f, st = .long x :: .int i :: .ref a :: r ∧ h[a]? = some (.inl (.long, n, .inr (.inl f))) ∧ vp_in i n ∧ K (pc + 1, lo, r, h.set a (.inl (.long, n, .inr (.inl (vp_updL f i.toNatClampNeg x)))), c, s)
  | .aastore => len = 1 ∧ ∃ v i a r ci fs n f, st = .ref v :: .int i :: .ref a :: r ∧ h[a]? = some (.inl (.object tb_rc, n, .inr (.inr (.inr (.inr f))))) ∧ (∃ q, vwCl[ci]? = some q ∧ q.1 = tb_rc) ∧ h[v]? = some (.inr (ci, fs)) ∧ vp_in i n ∧ K (pc + 1, lo, r, h.set a (.inl (.object tb_rc, n, .inr (.inr (.inr (.inr (va_up f i.toNatClampNeg (some v))))))), c, s)
  | .getfield k => len = 3 ∧ ∃ a r ci j fs v C T N ty, xm_cl ci C T N ty ∧ j < N ∧ xm_fk (xm_y mi).cls k (T j) ∧ st = .ref a :: r ∧ h[a]? = some (.inr (ci, fs)) ∧ fs[j]? = some v ∧ K (pc + 3, lo, v :: r, h, c, s)
  | .putfield k => len = 3 ∧ ∃ v a r ci j fs C T N ty, xm_cl ci C T N ty ∧ j < N ∧ xm_fk (xm_y mi).cls k (T j) ∧ ((T j).2.2.2 = false ∨ ((T j).2.2.2 = true ∧ (T j).1 = (xm_y mi).cls ∧ (xm_y mi).name = "<init>" ∧ Cond.fieldLink (xm_y mi).cls k (T j).1 (T j).2.1 (T j).2.2.1 ∈ tb_all)) ∧
      st = v :: .ref a :: r ∧ h[a]? = some (.inr (ci, fs)) ∧ j < fs.length ∧ narrow (ty j) v = v ∧ fits (ty j) v = true ∧ K (pc + 3, lo, r, h.set a (.inr (ci, fs.set j v)), c, s)
  | .newarray ty => len = 2 ∧ ∃ n r, st = .int n :: r ∧ ¬ n < 0 ∧ n.toNatClampNeg ≤ 65536 ∧ c + 1 ≤ xm_mc mi ∧ s + n.toNatClampNeg ≤ xm_ms mi ∧ (match ty with
    | .int => Cond.arrayClass .int ∈ tb_all ∧ K (pc + 2, lo, .ref h.length :: r, h ++ [.inl (.int, n.toNatClampNeg, .inl (fun _ => 0))], c + 1, s + n.toNatClampNeg)
    | .long => Cond.arrayClass .long ∈ tb_all ∧ K (pc + 2, lo, .ref h.length :: r, h ++ [.inl (.long, n.toNatClampNeg, .inr (.inl (fun _ => 0)))], c + 1, s + n.toNatClampNeg)
    | _ => False)
  | .anewarray k => len = 3 ∧ ∃ n r, Cond.classLink (xm_y mi).cls k tb_rc ∈ tb_all ∧ st = .int n :: r ∧ ¬ n < 0 ∧ n.toNatClampNeg ≤ 65536 ∧ c + 1 ≤ xm_mc mi ∧ s + n.toNatClampNeg ≤ xm_ms mi ∧ K (pc + 3, lo, .ref h.length :: r, h ++ [.inl (.object tb_rc, n.toNatClampNeg, .inr (.inr (.inr (.inr (fun _ => none)))))], c + 1, s + n.toNatClampNeg)
  | .multianewarray k d0 => len = 4 ∧ ∃ r, d0 = 2 ∧ Cond.classLink (xm_y mi).cls k "[[I" ∈ tb_all ∧ st = .int 9 :: .int 9 :: r ∧ c + 10 ≤ xm_mc mi ∧ s + 90 ≤ xm_ms mi ∧ K (pc + 4, lo, .ref h.length :: r, h ++ .inl (.array .int, 9, .inr (.inr (.inr (.inr (fun j => some (h.length + 1 + j)))))) :: List.replicate 9 (.inl (.int, 9, .inl (fun _ => 0))), c + 10, s + 90)
  | .new k => len = 3 ∧ ∃ ci C T N ty fs, xm_cl ci C T N ty ∧ Cond.classLink (xm_y mi).cls k C ∈ tb_all ∧ Cond.instantiable C N ∈ tb_all ∧ Cond.initialized C ∈ tb_all ∧ (∀ j, j < N → defaultValue (ty j) = vp_V fs j) ∧ fs.all xm_plain = true ∧ c + 1 ≤ xm_mc mi ∧ s + N ≤ xm_ms mi ∧ K (pc + 3, lo, .ref h.length :: st, h ++ [.inr (ci, fs)], c + 1, s + N)
  | .invokestatic k => len = 3 ∧ ((xm_mx (xm_y mi).cls k ∧ ∃ x y r, st = .int y :: .int x :: r ∧ xm_sum r ≤ 8 ∧ K (pc + 3, lo, .int (if x < y then y else x) :: r, h, c, s)) ∨
      ∃ M as, xm_ok M ∧ xm_lk (xm_y mi).cls k (xm_y M) ∧ Cond.static (xm_y M) ∈ tb_all ∧ xm_np (xm_y M) as.length ∧ xm_inv call mi M pc lo st as h c s K)
  | .invokevirtual k => len = 3 ∧ ∃ M as a ci fs C T N ty, xm_ok M ∧ xm_lk (xm_y mi).cls k (xm_y M) ∧ Cond.instanceMethod (xm_y M) ∈ tb_all ∧ Cond.selects (xm_y M).cls (xm_y M) (xm_y M) ∈ tb_all ∧ xm_np (xm_y M) as.length ∧ xm_cl ci C T N ty ∧ C = (xm_y M).cls ∧ h[a]? = some (.inr (ci, fs)) ∧ xm_inv call mi M pc lo st (.ref a :: as) h c s K
  | .invokespecial k => len = 3 ∧ ((xm_oi (xm_y mi).cls k ∧ ∃ a r, st = .ref a :: r ∧ xm_sum r ≤ 8 ∧ K (pc + 3, lo, r, h, c, s)) ∨
      ∃ M as a, xm_ok M ∧ xm_rt M = none ∧ xm_lk (xm_y mi).cls k (xm_y M) ∧ (xm_y M).name = "<init>" ∧ Cond.instanceMethod (xm_y M) ∈ tb_all ∧ xm_np (xm_y M) as.length ∧ xm_inv call mi M pc lo st (.ref a :: as) h c s K)
  | .ireturn => len = 1 ∧ ∃ x ty, st = [.int x] ∧ xm_rt mi = some ty ∧ narrow ty (.int x) = .int x ∧ Q (some (.int x)) h
  | .lreturn => len = 1 ∧ ∃ x, st = [.long x] ∧ xm_rt mi = some .long ∧ Q (some (.long x)) h
  | .return_ => len = 1 ∧ st = [] ∧ xm_rt mi = none ∧ Q none h
  | _ => False
/-- P holds where a step leads to P, or to a return with Q -/
def xm_cls (L : Nat) (xs : Nat → Int32) (call : xm_K) (mi : xm_M) (Q : xm_Q) (P : xm_J) : Prop :=
  ∀ (pc : Nat) (lo st : List Value) (h : xm_H) (c s : Nat) (i : Instr) (len : Nat), decode (xm_by mi) pc = .ok (i, len) → xm_op L xs call mi i len pc lo st h c s P Q → P (pc, lo, st, h, c, s)
/-- the machine comes from σ to a return with Q -/
def xm_X (L : Nat) (xs : Nat → Int32) (call : xm_K) (mi : xm_M) (σ : xm_S) (Q : xm_Q) : Prop := ∀ P : xm_J, xm_cls L xs call mi Q P → P σ
/-- the locals with which a method begins -/
def xm_lay : List Value → List Value
  | [] => []
  | v :: vs => if v.category = 2 then v :: .float 0 :: xm_lay vs else v :: xm_lay vs
def xm_ent (nL : Nat) (as : List Value) : List Value := xm_lay as ++ List.replicate (nL - (xm_lay as).length) (.float 0)
def xm_call (L : Nat) (xs : Nat → Int32) : Nat → xm_K
  | 0, _, _, _, _ => False
  | d + 1, M, as, h, Q => (xm_lay as).length ≤ xm_ml M ∧ xm_X L xs (xm_call L xs d) M (0, xm_ent (xm_ml M) as, [], h, 0, 0) Q
end
section
/-! The list heap and the real one: a world ws (the kit's va_W), position by position. -/
/-- a value of the small machine and the real one: ad, the real addresses of the cells; b, the script -/
def xm_v (ad : List Nat) (b : Nat) (v w : Value) : Prop := match v with
  | .int x => w = .int x
  | .long x => w = .long x
  | .null => w = .null
  | .ref k => ∃ a, ad[k]? = some a ∧ w = .ref a
  | .retAddr _ => w = .ref b
  | _ => False
theorem xm_get_app {α : Type} {l x : List α} {k : Nat} {a : α} (h : l[k]? = some a) : (l ++ x)[k]? = some a := by
  rw [List.getElem?_append_left (List.getElem?_eq_some_iff.mp h).1]; exact h
theorem xm_v_mono {ad : List Nat} (x : List Nat) {b : Nat} {v w : Value} (h : xm_v ad b v w) : xm_v (ad ++ x) b v w := by
  cases v with
  | ref k => obtain ⟨a, h1, h2⟩ := h; exact ⟨a, xm_get_app h1, h2⟩
  | _ => exact h
theorem xm_v_cat {ad : List Nat} {b : Nat} {v w : Value} (h : xm_v ad b v w) : w.category = v.category := by
  cases v with
  | int x => rw [show w = .int x from h]
  | long x => rw [show w = .long x from h]
  | null => rw [show w = .null from h]
  | ref k => obtain ⟨a, -, h2⟩ := h; rw [h2]; rfl
  | retAddr k => rw [show w = .ref b from h]; rfl
  | float x => exact h.elim
  | double x => exact h.elim
def xm_o (ad : List Nat) (f g : Option Nat) : Prop := match f with
  | none => g = none
  | some k => ∃ a, ad[k]? = some a ∧ g = some a
theorem xm_o_mono {ad : List Nat} (x : List Nat) {f g : Option Nat} (h : xm_o ad f g) : xm_o (ad ++ x) f g := by
  cases f with
  | none => exact h
  | some k => obtain ⟨a, h1, h2⟩ := h; exact ⟨a, xm_get_app h1, h2⟩
/-- stacks and argument lists -/
def xm_st (ad : List Nat) (b : Nat) : List Value → List Value → Prop
  | [], ws => ws = []
  | v :: vs, ws => ∃ w r, ws = w :: r ∧ xm_v ad b v w ∧ xm_st ad b vs r
theorem xm_st_mono {ad : List Nat} (x : List Nat) {b : Nat} : ∀ {vs ws : List Value}, xm_st ad b vs ws → xm_st (ad ++ x) b vs ws
  | [], _, h => h
  | _ :: _, _, ⟨w, r, h1, h2, h3⟩ => ⟨w, r, h1, xm_v_mono x h2, xm_st_mono x h3⟩
theorem xm_st_len {ad : List Nat} {b : Nat} : ∀ {vs ws : List Value}, xm_st ad b vs ws → ws.length = vs.length
  | [], _, h => by rw [show _ = [] from h]
  | _ :: _, _, ⟨w, r, h1, _, h3⟩ => by rw [h1, List.length_cons, List.length_cons, xm_st_len h3]
theorem xm_st_sum {ad : List Nat} {b : Nat} : ∀ {vs ws : List Value}, xm_st ad b vs ws → xm_sum ws = xm_sum vs
  | [], _, h => by rw [show _ = [] from h]
  | _ :: _, _, ⟨w, r, h1, h2, h3⟩ => by
    have e := xm_st_sum h3
    unfold xm_sum at e ⊢
    rw [h1]
    simp only [List.map_cons, List.sum_cons]
    rw [e, xm_v_cat h2]
theorem xm_st_app {ad : List Nat} {b : Nat} : ∀ {xs ys ws : List Value}, xm_st ad b (xs ++ ys) ws → ∃ w1 w2, ws = w1 ++ w2 ∧ xm_st ad b xs w1 ∧ xm_st ad b ys w2
  | [], _, ws, h => ⟨[], ws, rfl, rfl, h⟩
  | _ :: _, _, _, ⟨w, r, h1, h2, h3⟩ => by
    obtain ⟨w1, w2, e1, e2, e3⟩ := xm_st_app h3
    exact ⟨w :: w1, w2, by rw [h1, e1]; rfl, ⟨w, w1, rfl, h2, e2⟩, e3⟩
theorem xm_st_join {ad : List Nat} {b : Nat} : ∀ {xs ys w1 w2 : List Value}, xm_st ad b xs w1 → xm_st ad b ys w2 → xm_st ad b (xs ++ ys) (w1 ++ w2)
  | [], _, _, _, h1, h2 => by rw [show _ = [] from h1]; exact h2
  | _ :: _, _, _, _, ⟨w, r, h1, h2, h3⟩, h4 => by rw [h1]; exact ⟨w, r ++ _, rfl, h2, xm_st_join h3 h4⟩
theorem xm_st_rev {ad : List Nat} {b : Nat} : ∀ {xs ws : List Value}, xm_st ad b xs ws → xm_st ad b xs.reverse ws.reverse
  | [], _, h => by rw [show _ = [] from h]; exact rfl
  | _ :: _, _, ⟨w, r, h1, h2, h3⟩ => by
    rw [h1, List.reverse_cons, List.reverse_cons]
    exact xm_st_join (xm_st_rev h3) ⟨w, [], rfl, h2, rfl⟩
/-- cells -/
def xm_c (ad : List Nat) (b : Nat) (dA : FieldType → ClassId) (v : xm_C) (w : va_E) : Prop := match v with
  | .inl (ty, n, .inl f) => w = .inl (dA ty, n, .inl f)
  | .inl (ty, n, .inr (.inl f)) => w = .inl (dA ty, n, .inr (.inl f))
  | .inl (ty, n, .inr (.inr (.inr (.inr f)))) => ∃ g, w = .inl (dA ty, n, .inr (.inr (.inr (.inr g)))) ∧ ∀ j, j < n → xm_o ad (f j) (g j)
  | .inl _ => False
  | .inr (ci, fs) => ∃ gs, w = .inr (ci, gs) ∧ xm_st ad b fs gs
theorem xm_c_mono {ad : List Nat} (x : List Nat) {b : Nat} {dA : FieldType → ClassId} {v : xm_C} {w : va_E} (h : xm_c ad b dA v w) : xm_c (ad ++ x) b dA v w := by
  match v, h with
  | .inl (ty, n, .inl f), h => exact h
  | .inl (ty, n, .inr (.inl f)), h => exact h
  | .inl (ty, n, .inr (.inr (.inr (.inr f)))), ⟨g, h1, h2⟩ => exact ⟨g, h1, fun j hj => xm_o_mono x (h2 j hj)⟩
  | .inr (ci, fs), ⟨gs, h1, h2⟩ => exact ⟨gs, h1, xm_st_mono x h2⟩
abbrev xm_ad (ws : va_W) : List Nat := ws.map (fun q => q.1)
def xm_R (ad : List Nat) (b : Nat) (dA : FieldType → ClassId) (h : xm_H) (ws : va_W) : Prop := ws.length = h.length ∧ (∀ (k : Nat) (v : xm_C) (q : Nat × va_E), h[k]? = some v → ws[k]? = some q → xm_c (xm_ad ws) b dA v q.2) ∧ ∃ x, xm_ad ws = ad ++ x
theorem xm_R_self {ad : List Nat} {b : Nat} {dA : FieldType → ClassId} {h : xm_H} {ws : va_W} (hR : xm_R ad b dA h ws) : xm_R (xm_ad ws) b dA h ws := ⟨hR.1, hR.2.1, [], by simp⟩
theorem xm_R_trans {ad : List Nat} {b : Nat} {dA : FieldType → ClassId} {h h1 : xm_H} {ws ws1 : va_W} (hR : xm_R ad b dA h ws) (hR1 : xm_R (xm_ad ws) b dA h1 ws1) : xm_R ad b dA h1 ws1 := by
  obtain ⟨x, hx⟩ := hR.2.2
  obtain ⟨y, hy⟩ := hR1.2.2
  exact ⟨hR1.1, hR1.2.1, x ++ y, by rw [hy, hx, List.append_assoc]⟩
theorem xm_R_get {ad : List Nat} {b : Nat} {dA : FieldType → ClassId} {h : xm_H} {ws : va_W} (hR : xm_R ad b dA h ws) {k : Nat} {v : xm_C} (hk : h[k]? = some v) : ∃ a e, ws[k]? = some (a, e) ∧ (xm_ad ws)[k]? = some a ∧ xm_c (xm_ad ws) b dA v e := by
  have hl : k < ws.length := by rw [hR.1]; exact (List.getElem?_eq_some_iff.mp hk).1
  have e1 : ws[k]? = some ws[k] := List.getElem?_eq_getElem hl
  exact ⟨ws[k].1, ws[k].2, e1, by rw [List.getElem?_map, e1]; rfl, hR.2.1 k v _ hk e1⟩
theorem xm_ad_set {ws : va_W} {k a : Nat} {e0 e : va_E} (hk : ws[k]? = some (a, e0)) : xm_ad (ws.set k (a, e)) = xm_ad ws := by
  apply List.ext_getElem?
  intro j
  rw [List.getElem?_map, List.getElem?_map, List.getElem?_set]
  split
  · rename_i h
    subst h
    rw [hk]
    split
    · rfl
    · rename_i h2
      exact absurd (List.getElem?_eq_some_iff.mp hk).1 h2
  · rfl
theorem xm_R_set {ad : List Nat} {b : Nat} {dA : FieldType → ClassId} {h : xm_H} {ws : va_W} (hR : xm_R ad b dA h ws) {k a : Nat} {e0 e : va_E} {v : xm_C} (hk : ws[k]? = some (a, e0)) (hc : xm_c (xm_ad ws) b dA v e) : xm_R ad b dA (h.set k v) (ws.set k (a, e)) := by
  refine ⟨by rw [List.length_set, List.length_set]; exact hR.1, fun j u q hj hq => ?_, by rw [xm_ad_set hk]; exact hR.2.2⟩
  rw [xm_ad_set hk]
  rw [List.getElem?_set] at hj hq
  split at hj
  · rename_i h1
    rw [if_pos h1] at hq
    split at hj
    · split at hq
      · cases hj; cases hq; exact hc
      · cases hq
    · cases hj
  · rename_i h1
    rw [if_neg h1] at hq
    exact hR.2.1 j u q hj hq
theorem xm_R_push {ad : List Nat} {b : Nat} {dA : FieldType → ClassId} {h : xm_H} {ws : va_W} (hR : xm_R ad b dA h ws) {q : Nat} {e : va_E} {v : xm_C} (hc : xm_c (xm_ad ws ++ [q]) b dA v e) : xm_R ad b dA (h ++ [v]) (ws ++ [(q, e)]) := by
  have e1 : xm_ad (ws ++ [(q, e)]) = xm_ad ws ++ [q] := by simp [xm_ad]
  refine ⟨by simp [hR.1], fun j u x hj hx => ?_, by obtain ⟨x, hx⟩ := hR.2.2; exact ⟨x ++ [q], by rw [e1, hx, List.append_assoc]⟩⟩
  rw [e1]
  by_cases hl : j < h.length
  · rw [List.getElem?_append_left hl] at hj
    rw [List.getElem?_append_left (by rw [hR.1]; exact hl)] at hx
    exact xm_c_mono [q] (hR.2.1 j u x hj hx)
  · rw [List.getElem?_append_right (by omega)] at hj
    rw [List.getElem?_append_right (by rw [hR.1]; omega), hR.1] at hx
    have hz : j - h.length < 1 := (List.getElem?_eq_some_iff.mp hj).1
    rw [show j - h.length = 0 by omega] at hj hx
    cases hj
    cases hx
    exact hc
/-- locals -/
def xm_live (lo : List Value) (i : Nat) (v : Value) : Prop := lo[i]? = some v ∧ match v with
  | .long _ => ∃ z, lo[i + 1]? = some (.float z)
  | .float _ => False
  | .double _ => False
  | _ => True
def xm_l (ad : List Nat) (b nL : Nat) (lo : List Value) (ls : Array Slot) : Prop := ls.size = nL ∧ lv_wf ls ∧ lo.length = nL ∧ ∀ (i : Nat) (v : Value), xm_live lo i v → ∃ w, xm_v ad b v w ∧ ls[i]? = some (.val w)
theorem xm_l_mono {ad : List Nat} (x : List Nat) {b nL : Nat} {lo : List Value} {ls : Array Slot} (h : xm_l ad b nL lo ls) : xm_l (ad ++ x) b nL lo ls := ⟨h.1, h.2.1, h.2.2.1, fun i v hv => by
  obtain ⟨w, h1, h2⟩ := h.2.2.2 i v hv
  exact ⟨w, xm_v_mono x h1, h2⟩⟩
/-- all that the real locals hold -/
def xm_sv (i : Nat) (z : Option Slot) : Option (Nat × Value) := match z with
  | some (Slot.val w) => some (i, w)
  | _ => none
def xm_all (ls : Array Slot) : List (Nat × Value) := (List.range ls.size).filterMap (fun i => xm_sv i ls[i]?)
theorem xm_all_mem {ls : Array Slot} {i : Nat} {w : Value} : (i, w) ∈ xm_all ls ↔ ls[i]? = some (.val w) := by
  unfold xm_all
  rw [List.mem_filterMap]
  constructor
  · rintro ⟨j, -, h⟩
    unfold xm_sv at h
    split at h
    · rename_i u hu
      cases h
      exact hu
    · cases h
  · intro h
    exact ⟨i, List.mem_range.mpr (Array.getElem?_eq_some_iff.mp h).1, by rw [h]; rfl⟩
theorem xm_all_has {ad : List Nat} {b nL : Nat} {lo : List Value} {ls : Array Slot} (h : xm_l ad b nL lo ls) : lv_has ls nL (xm_all ls) := ⟨h.1, h.2.1, fun q hq => xm_all_mem.mp hq⟩
theorem xm_l_set1 {ad : List Nat} {b nL : Nat} {lo : List Value} {ls ls' : Array Slot} {i : Nat} {v w : Value} (h : xm_l ad b nL lo ls) (hi : i < lo.length) (hv : xm_v ad b v w) (hc : v.category = 1)
    (h' : lv_has ls' nL ((i, w) :: (xm_all ls).filter (fun q => !(q.1 == i) && !(q.1 + 1 == i && q.2.category == 2)))) : xm_l ad b nL (lo.set i v) ls' := by
  refine ⟨h'.1, h'.2.1, by rw [List.length_set]; exact h.2.2.1, fun j u hu => ?_⟩
  by_cases hj : j = i
  · subst hj
    have e1 : u = v := by
      have := hu.1
      rw [List.getElem?_set_self hi] at this
      exact (Option.some.inj this).symm
    subst e1
    exact ⟨w, hv, h'.2.2 (j, w) List.mem_cons_self⟩
  · have e1 : lo[j]? = some u := by rw [← hu.1, List.getElem?_set_ne (fun q => hj q.symm)]
    have hlive : xm_live lo j u := by
      refine ⟨e1, ?_⟩
      have h2 := hu.2
      cases u with
      | long x =>
        obtain ⟨z, hz⟩ := h2
        by_cases hji : i = j + 1
        · subst hji
          rw [List.getElem?_set_self hi] at hz
          have e2 := Option.some.inj hz
          rw [e2] at hv
          exact hv.elim
        · rw [List.getElem?_set_ne hji] at hz
          exact ⟨z, hz⟩
      | _ => exact h2
    obtain ⟨w2, h1, h2⟩ := h.2.2.2 j u hlive
    refine ⟨w2, h1, h'.2.2 (j, w2) (List.mem_cons_of_mem _ (List.mem_filter.mpr ⟨xm_all_mem.mpr h2, ?_⟩))⟩
    simp only [Bool.and_eq_true, Bool.not_eq_true', beq_eq_false_iff_ne, ne_eq, Bool.and_eq_false_iff]
    refine ⟨hj, ?_⟩
    by_cases hji : j + 1 = i
    · right
      rw [xm_v_cat h1]
      intro hcat
      have hu2 := hu.2
      cases u with
      | long x =>
        obtain ⟨z, hz⟩ := hu2
        rw [hji, List.getElem?_set_self hi] at hz
        have e2 := Option.some.inj hz
        rw [e2] at hv
        exact hv.elim
      | double x => exact hu2.elim
      | _ => simp [Value.category] at hcat
    · left
      exact hji
theorem xm_l_set2 {ad : List Nat} {b nL : Nat} {lo : List Value} {ls ls' : Array Slot} {i : Nat} {x : Int64} (h : xm_l ad b nL lo ls) (hi : i + 1 < lo.length)
    (h' : lv_has ls' nL ((i, Value.long x) :: (xm_all ls).filter (fun q => !(q.1 == i) && (!(q.1 == i + 1) && !(q.1 + 1 == i && q.2.category == 2))))) : xm_l ad b nL ((lo.set i (.long x)).set (i + 1) (.float 0)) ls' := by
  have hlen : ((lo.set i (.long x)).set (i + 1) (.float 0)).length = nL := by rw [List.length_set, List.length_set]; exact h.2.2.1
  have hself : ((lo.set i (.long x)).set (i + 1) (.float 0))[i + 1]? = some (.float 0) := List.getElem?_set_self (by rw [List.length_set]; exact hi)
  have hat : ((lo.set i (.long x)).set (i + 1) (.float 0))[i]? = some (.long x) := by
    rw [List.getElem?_set_ne (by omega), List.getElem?_set_self (by omega)]
  have hne : ∀ j, j ≠ i → j ≠ i + 1 → ((lo.set i (.long x)).set (i + 1) (.float 0))[j]? = lo[j]? := fun j h1 h2 => by
    rw [List.getElem?_set_ne (fun q => h2 q.symm), List.getElem?_set_ne (fun q => h1 q.symm)]
  refine ⟨h'.1, h'.2.1, hlen, fun j u hu => ?_⟩
  by_cases hj : j = i
  · subst hj
    have e1 := hu.1
    rw [hat] at e1
    have e2 := (Option.some.inj e1).symm
    subst e2
    exact ⟨.long x, rfl, h'.2.2 (j, .long x) List.mem_cons_self⟩
  · by_cases hj1 : j = i + 1
    · subst hj1
      have e1 := hu.1
      rw [hself] at e1
      have e2 := (Option.some.inj e1).symm
      subst e2
      exact hu.2.elim
    · have e1 : lo[j]? = some u := by rw [← hne j hj hj1]; exact hu.1
      have hno : ∀ y, u = .long y → j + 1 ≠ i := fun y hy hji => by
        have h2 := hu.2
        rw [hy] at h2
        obtain ⟨z, hz⟩ := h2
        rw [hji, hat] at hz
        cases hz
      have hlive : xm_live lo j u := by
        refine ⟨e1, ?_⟩
        have h2 := hu.2
        cases u with
        | long y =>
          obtain ⟨z, hz⟩ := h2
          rw [hne (j + 1) (hno y rfl) (by omega)] at hz
          exact ⟨z, hz⟩
        | _ => exact h2
      obtain ⟨w2, h1, h2⟩ := h.2.2.2 j u hlive
      refine ⟨w2, h1, h'.2.2 (j, w2) (List.mem_cons_of_mem _ (List.mem_filter.mpr ⟨xm_all_mem.mpr h2, ?_⟩))⟩
      simp only [Bool.and_eq_true, Bool.not_eq_true', beq_eq_false_iff_ne, ne_eq, Bool.and_eq_false_iff]
      refine ⟨hj, hj1, ?_⟩
      by_cases hji : j + 1 = i
      · right
        rw [xm_v_cat h1]
        intro hcat
        cases u with
        | long y => exact hno y rfl hji
        | double y => exact hu.2
        | _ => simp [Value.category] at hcat
      · left
        exact hji
end
section
/-! What a frame stands on; what a state of the small machine is in the real one. -/
def xm_tys (dA : FieldType → ClassId) : List (ClassId × FieldType) := [(dA .int, .int), (dA .long, .long), (dA (.array .int), .array .int), (dA (.object tb_rc), .object tb_rc)]
abbrev xm_A (B0 : Nat) : Nat → Prop := fun q => B0 ≤ q
/-- what every method's start says beside the cells -/
def xm_E (D : va_G) (dA : FieldType → ClassId) (b B0 L : Nat) (xs : Nat → Int32) (U : State) : Prop := va_K D vwCl (xm_tys dA) U ∧ va_X b L xs U U.heap ∧ b < B0 ∧ B0 ≤ U.heap.size ∧ (∀ w ∈ tb_nest, va_Nw w U) ∧ va_AO tb_rc U ∧ ∃ kA : Class, U.vm.classes[dA (.array .int)]? = some kA ∧ kA.kind = .array (dA .int) (.array .int)
theorem xm_isn_on {w : Cond} (hw : xm_isn w = true) : w.onTables = true := by
  cases w <;> first | rfl | cases hw
theorem xm_nw {w : Cond} {s U : State} (hw : xm_isn w = true) (hW : s.WarmedH U.vm) (h : va_Nw w s) : va_Nw w U := by
  cases w <;> first | exact va_Nw.warmF hW h | exact va_Nw.warmM hW h | cases hw
theorem xm_E_go {D : va_G} {dA : FieldType → ClassId} {b B0 L : Nat} {xs : Nat → Int32} {s U : State} {H : Heap} {locs : List Loc} (h : xm_E D dA b B0 L xs s) (hS : va_S (xm_A B0) s.heap H locs) (hU : U.heap = H) (hW : s.WarmedH U.vm) : xm_E D dA b B0 L xs U := by
  obtain ⟨h1, h2, h3, h4, h5, h6, kA, h7, h8⟩ := h
  have hb : b < s.heap.size := Nat.lt_of_lt_of_le h3 h4
  refine ⟨va_K.moved hW.alike h1, ?_, h3, ?_, fun w hw => xm_nw (List.mem_filter.mp hw).2 hW (h5 w hw), va_AO.moved hW.alike h6, ?_⟩
  · rw [hU]
    exact va_X.moved hW.alike (va_X.kept h2 (hS.2.1 b hb (fun q => absurd q (Nat.not_le_of_lt h3))))
  · rw [hU]
    exact Nat.le_trans h4 hS.1
  · obtain ⟨k', hk', he⟩ := hW.alike.2.2 _ _ h7
    exact ⟨k', hk', by rw [he]; exact h8⟩
def xm_F (p : Program) (R : Room) (s : State) (m : MethodId) (args : Array Value) (meth : Method) (c : Code) (M : xm_M) (d : Nat) (D : va_G) (dA : FieldType → ClassId) (b B0 L : Nat) (xs : Nat → Int32) : Prop :=
  CallFix p m c (xm_by M) (xm_ml M) s args tb_all (xm_y M).cls ∧ xm_E D dA b B0 L xs s ∧ (R.cells = xm_mc M ∧ R.slots = xm_ms M) ∧ (d + 1 ≤ R.frames ∧ 48 * d + 48 ≤ R.locals) ∧ meth.name = (xm_y M).name
def xm_I (s : State) (D : va_G) (dA : FieldType → ClassId) (ad : List Nat) (b B0 nL : Nat) (lo st : List Value) (h : xm_H) (ws : va_W) (H : Heap) (locs : List Loc) (ls : Array Slot) (rst : List Value) : Prop :=
  xm_R ad b dA h ws ∧ va_P D vwCl ws H ∧ va_D (xm_A B0) ws ∧ va_S (xm_A B0) s.heap H locs ∧ xm_l (xm_ad ws) b nL lo ls ∧ xm_st (xm_ad ws) b st rst
def xm_G (p : Program) (l : Launch) (e : Env) (R : Room) (s : State) (m : MethodId) (args : Array Value) (below : List Frame) (meth : Method) (c : Code) (Qw : State → Prop) (D : va_G) (dA : FieldType → ClassId) (ad : List Nat) (b B0 nL : Nat) (σ : xm_S) : Prop :=
  ∀ (ws : va_W) (H : Heap) (locs : List Loc) (ls : Array Slot) (rst : List Value), σ.2.2.2.2.1 ≤ R.cells → σ.2.2.2.2.2 ≤ R.slots → xm_I s D dA ad b B0 nL σ.2.1 σ.2.2.1 σ.2.2.2.1 ws H locs ls rst → W p l e R s m args below meth c H locs σ.2.2.2.2.1 σ.2.2.2.2.2 Qw (F0 m σ.1 ls rst)
def xm_ov (ad : List Nat) (b : Nat) (v w : Option Value) : Prop := match v with
  | none => w = none
  | some x => ∃ u, w = some u ∧ xm_v ad b x u
def xm_Qc (D : va_G) (dA : FieldType → ClassId) (b B0 : Nat) (ad : List Nat) (Q : xm_Q) : Array Value → State → Outcome → State → Prop := fun _ st o t =>
  (∃ (v w : Option Value) (h : xm_H) (ws : va_W), o = .returned w ∧ xm_ov (xm_ad ws) b v w ∧ Q v h ∧ xm_R ad b dA h ws ∧ va_P D vwCl ws t.heap ∧ va_D (xm_A B0) ws) ∧ va_F (xm_A B0) st t
abbrev xm_ws (M : xm_M) : List Cond := .code (xm_y M) (xm_by M) (xm_ml M) (xm_rt M) :: tb_all
abbrev xm_rm (d : Nat) (M : xm_M) : Room := { frames := d, cells := xm_mc M, slots := xm_ms M, locals := 48 * d }
def xm_Met (l : Launch) (d : Nat) (D : va_G) (dA : FieldType → ClassId) (b B0 L : Nat) (xs : Nat → Int32) (M : xm_M) (as : List Value) (h : xm_H) (Q : xm_Q) : Prop :=
  ∀ (ws : va_W) (ras : List Value), xm_R [] b dA h ws → va_D (xm_A B0) ws → xm_st (xm_ad ws) b as ras →
    Met l (xm_y M) (xm_ws M) (xm_rm d M) (va_Pc ras (fun U => xm_E D dA b B0 L xs U ∧ va_P D vwCl ws U.heap)) (xm_Qc D dA b B0 (xm_ad ws) Q) (xm_mc M) (xm_ms M) (xm_A B0)
theorem xm_E_blind {D : va_G} {dA : FieldType → ClassId} {b B0 L : Nat} {xs : Nat → Int32} {ws : va_W} {ras : List Value} : FrameBlind (va_Pc ras (fun U => xm_E D dA b B0 L xs U ∧ va_P D vwCl ws U.heap)) := by
  intro a U g mk q
  obtain ⟨q0, ⟨q1, q2, q3, q4, q5, q7, q8⟩, q6⟩ := q
  exact ⟨q0, ⟨va_K.moved (u := U) (U := U.calling g mk a) (Vm.Alike.refl U.vm) q1, va_X.moved (u := U) (U := U.calling g mk a) (Vm.Alike.refl U.vm) q2, q3, q4, fun w hw => va_Nw.same (u := U) (xm_isn_on (List.mem_filter.mp hw).2) rfl (q5 w hw), q7, q8⟩, q6⟩
theorem xm_st_get {ad : List Nat} {b : Nat} : ∀ {fs gs : List Value} {j : Nat} {v : Value}, xm_st ad b fs gs → fs[j]? = some v → ∃ u, gs[j]? = some u ∧ xm_v ad b v u
  | [], _, j, v, _, h => by simp at h
  | _ :: _, _, 0, v, ⟨w, r, h1, h2, _⟩, h => by rw [List.getElem?_cons_zero] at h; cases h; exact ⟨w, by rw [h1]; rfl, h2⟩
  | _ :: _, _, j + 1, v, ⟨w, r, h1, _, h3⟩, h => by
    rw [List.getElem?_cons_succ] at h
    obtain ⟨u, e1, e2⟩ := xm_st_get h3 h
    exact ⟨u, by rw [h1, List.getElem?_cons_succ]; exact e1, e2⟩
theorem xm_st_set {ad : List Nat} {b : Nat} : ∀ {fs gs : List Value} {j : Nat} {v u : Value}, xm_st ad b fs gs → xm_v ad b v u → xm_st ad b (fs.set j v) (gs.set j u)
  | [], gs, j, v, u, h, _ => by rw [show gs = [] from h]; exact rfl
  | _ :: _, _, 0, v, u, ⟨w, r, h1, h2, h3⟩, hv => by rw [h1]; exact ⟨u, r, rfl, hv, h3⟩
  | _ :: _, _, j + 1, v, u, ⟨w, r, h1, h2, h3⟩, hv => by rw [h1]; exact ⟨w, r.set j u, rfl, h2, xm_st_set h3 hv⟩
theorem xm_v_narrow {ad : List Nat} {b : Nat} {v u : Value} {ty : FieldType} (h : xm_v ad b v u) (hn : narrow ty v = v) : narrow ty u = u := by
  cases v with
  | int x => rw [show u = .int x from h]; exact hn
  | long x => rw [show u = .long x from h]; exact hn
  | null => rw [show u = .null from h]; exact hn
  | ref k => obtain ⟨a, -, h2⟩ := h; rw [h2]; cases ty <;> rfl
  | retAddr k => rw [show u = .ref b from h]; cases ty <;> rfl
  | float x => exact h.elim
  | double x => exact h.elim
theorem xm_v_fits {ad : List Nat} {b : Nat} {v u : Value} {ty : FieldType} (h : xm_v ad b v u) (hn : fits ty v = true) : fits ty u = true := by
  cases v with
  | int x => rw [show u = .int x from h]; exact hn
  | long x => rw [show u = .long x from h]; exact hn
  | null => rw [show u = .null from h]; exact hn
  | ref k => obtain ⟨a, -, h2⟩ := h; rw [h2]; cases ty <;> first | exact hn | (simp [fits] at hn)
  | retAddr k => cases ty <;> simp [fits] at hn
  | float x => exact h.elim
  | double x => exact h.elim
theorem xm_st_plain {ad : List Nat} {b : Nat} : ∀ {fs : List Value}, fs.all xm_plain = true → xm_st ad b fs fs
  | [], _ => rfl
  | v :: vs, h => by
    rw [List.all_cons, Bool.and_eq_true] at h
    refine ⟨v, vs, rfl, ?_, xm_st_plain h.2⟩
    cases v <;> first | exact rfl | exact absurd h.1 (by decide) | exact absurd h.1 (by simp [xm_plain])
theorem xm_ad_push (ws : va_W) (q : Nat) (e : va_E) : xm_ad (ws ++ [(q, e)]) = xm_ad ws ++ [q] := by simp [xm_ad]
theorem xm_ad_new (ws : va_W) (q : Nat) : (xm_ad ws ++ [q])[ws.length]? = some q := by
  rw [List.getElem?_append_right (by simp [xm_ad])]
  simp [xm_ad]
section XR
variable {p : Program} {l : Launch} {e : Env} {R : Room} {s : State} {m : MethodId} {args : Array Value} {below : List Frame} {meth : Method} {c : Code} {H : Heap} {locs : List Loc} {cells slots : Nat} {Qw : State → Prop}
variable {pc : Nat} {ls : Array Slot} {rest st0 : List Value} {a : Array Value} {mc ms : Nat} {D : va_G} {dA : FieldType → ClassId} {b B0 : Nat} {ad : List Nat} {Q : xm_Q}
/-- behind a call -/
theorem xs_run (hr : va_Run p l e R s m args below meth c H locs cells slots mc ms (F0 m pc ls st0) rest (xm_Qc D dA b B0 ad Q a) (xm_A B0)) (hS : va_S (xm_A B0) s.heap H locs)
    (kk : ∀ (v w : Option Value) (h : xm_H) (ws : va_W) (H1 : Heap) (locs1 : List Loc), xm_ov (xm_ad ws) b v w → Q v h → xm_R ad b dA h ws → va_P D vwCl ws H1 → va_D (xm_A B0) ws → va_S (xm_A B0) s.heap H1 locs1 → W p l e R s m args below meth c H1 locs1 (cells + mc) (slots + ms) Qw (F0 m (pc + 3) ls (w.toList ++ rest))) : W p l e R s m args below meth c H locs cells slots Qw (F0 m pc ls st0) := by
  intro T hT X
  obtain ⟨v0, st₀, t, T', Lc, h0, X', hL, e1, e2, ⟨⟨v, w, h, ws, hv, hov, hq, hR, hP, hD⟩, hz, hk⟩, st⟩ := hr T hT X
  cases hv
  rw [h0] at hz hk
  obtain ⟨t2, a1, b1⟩ := kk v v0 h ws T'.heap (locs ++ Lc) hov hq hR (by rw [e1]; exact hP) hD
    ⟨Nat.le_trans hS.1 (by rw [e1]; exact hz), fun q h1 h2 => by rw [e1, hk q (Nat.lt_of_lt_of_le h1 hS.1) h2]; exact hS.2.1 q h1 h2, fun q hq => by
      rcases List.mem_append.mp hq with h | h
      · exact hS.2.2 q h
      · exact hL q h⟩ T' rfl X'
  exact ⟨t2, st t2 a1, b1⟩
end XR
end
section
/-! What the small machine does, the real one does: a row an instruction. (Printed by gen_sound.py.) -/
section XS
variable {p : Program} {l : Launch} {e : Env} {R : Room} {s : State} {m : MethodId} {args : Array Value} {below : List Frame} {meth : Method} {c : Code} {Qw : State → Prop} {M : xm_M} {d : Nat} {D : va_G} {dA : FieldType → ClassId} {ad : List Nat} {b B0 L : Nat} {xs : Nat → Int32}
variable {len pc : Nat} {lo st : List Value} {h : xm_H} {cn sn : Nat}
theorem xs_iadd  (F : xm_F p R s m args meth c M d D dA b B0 L xs) (hd : decode (xm_by M) pc = .ok (.iadd, len)) (ho : len = 1 ∧ ∃ (x : Int32) (y : Int32) (r : List Value), st = .int y :: .int x :: r ∧ xm_G p l e R s m args below meth c Qw D dA ad b B0 (xm_ml M) (pc + 1, lo, .int (x + y) :: r, h, cn, sn)) : xm_G p l e R s m args below meth c Qw D dA ad b B0 (xm_ml M) (pc, lo, st, h, cn, sn) := by
  obtain ⟨rfl, x, y, r, rfl, hk⟩ := ho
  intro ws H locs ls rst hc hs hI
  obtain ⟨iR, iP, iD, iS, iL, w1, r1, rfl, e1, w2, r2, rfl, e2, iT⟩ := hI
  have e1 : w1 = .int y := e1
  have e2 : w2 = .int x := e2
  subst e1; subst e2
  exact lv_iadd F.1.1 F.1.2.1 hd (hk ws H locs ls _ hc hs ⟨iR, iP, iD, iS, iL, _, _, rfl, rfl, iT⟩)
theorem xs_isub  (F : xm_F p R s m args meth c M d D dA b B0 L xs) (hd : decode (xm_by M) pc = .ok (.isub, len)) (ho : len = 1 ∧ ∃ (x : Int32) (y : Int32) (r : List Value), st = .int y :: .int x :: r ∧ xm_G p l e R s m args below meth c Qw D dA ad b B0 (xm_ml M) (pc + 1, lo, .int (x - y) :: r, h, cn, sn)) : xm_G p l e R s m args below meth c Qw D dA ad b B0 (xm_ml M) (pc, lo, st, h, cn, sn) := by
  obtain ⟨rfl, x, y, r, rfl, hk⟩ := ho
  intro ws H locs ls rst hc hs hI
  obtain ⟨iR, iP, iD, iS, iL, w1, r1, rfl, e1, w2, r2, rfl, e2, iT⟩ := hI
  have e1 : w1 = .int y := e1
  have e2 : w2 = .int x := e2
  subst e1; subst e2
  exact lv_isub F.1.1 F.1.2.1 hd (hk ws H locs ls _ hc hs ⟨iR, iP, iD, iS, iL, _, _, rfl, rfl, iT⟩)
theorem xs_imul  (F : xm_F p R s m args meth c M d D dA b B0 L xs) (hd : decode (xm_by M) pc = .ok (.imul, len)) (ho : len = 1 ∧ ∃ (x : Int32) (y : Int32) (r : List Value), st = .int y :: .int x :: r ∧ xm_G p l e R s m args below meth c Qw D dA ad b B0 (xm_ml M) (pc + 1, lo, .int (x * y) :: r, h, cn, sn)) : xm_G p l e R s m args below meth c Qw D dA ad b B0 (xm_ml M) (pc, lo, st, h, cn, sn) := by
  obtain ⟨rfl, x, y, r, rfl, hk⟩ := ho
  intro ws H locs ls rst hc hs hI
  obtain ⟨iR, iP, iD, iS, iL, w1, r1, rfl, e1, w2, r2, rfl, e2, iT⟩ := hI
  have e1 : w1 = .int y := e1
  have e2 : w2 = .int x := e2
  subst e1; subst e2
  exact lv_imul F.1.1 F.1.2.1 hd (hk ws H locs ls _ hc hs ⟨iR, iP, iD, iS, iL, _, _, rfl, rfl, iT⟩)
theorem xs_iand  (F : xm_F p R s m args meth c M d D dA b B0 L xs) (hd : decode (xm_by M) pc = .ok (.iand, len)) (ho : len = 1 ∧ ∃ (x : Int32) (y : Int32) (r : List Value), st = .int y :: .int x :: r ∧ xm_G p l e R s m args below meth c Qw D dA ad b B0 (xm_ml M) (pc + 1, lo, .int (x &&& y) :: r, h, cn, sn)) : xm_G p l e R s m args below meth c Qw D dA ad b B0 (xm_ml M) (pc, lo, st, h, cn, sn) := by
  obtain ⟨rfl, x, y, r, rfl, hk⟩ := ho
  intro ws H locs ls rst hc hs hI
  obtain ⟨iR, iP, iD, iS, iL, w1, r1, rfl, e1, w2, r2, rfl, e2, iT⟩ := hI
  have e1 : w1 = .int y := e1
  have e2 : w2 = .int x := e2
  subst e1; subst e2
  exact lv_iand F.1.1 F.1.2.1 hd (hk ws H locs ls _ hc hs ⟨iR, iP, iD, iS, iL, _, _, rfl, rfl, iT⟩)
theorem xs_ladd  (F : xm_F p R s m args meth c M d D dA b B0 L xs) (hd : decode (xm_by M) pc = .ok (.ladd, len)) (ho : len = 1 ∧ ∃ (x : Int64) (y : Int64) (r : List Value), st = .long y :: .long x :: r ∧ xm_G p l e R s m args below meth c Qw D dA ad b B0 (xm_ml M) (pc + 1, lo, .long (x + y) :: r, h, cn, sn)) : xm_G p l e R s m args below meth c Qw D dA ad b B0 (xm_ml M) (pc, lo, st, h, cn, sn) := by
  obtain ⟨rfl, x, y, r, rfl, hk⟩ := ho
  intro ws H locs ls rst hc hs hI
  obtain ⟨iR, iP, iD, iS, iL, w1, r1, rfl, e1, w2, r2, rfl, e2, iT⟩ := hI
  have e1 : w1 = .long y := e1
  have e2 : w2 = .long x := e2
  subst e1; subst e2
  exact lv_ladd F.1.1 F.1.2.1 hd (hk ws H locs ls _ hc hs ⟨iR, iP, iD, iS, iL, _, _, rfl, rfl, iT⟩)
theorem xs_lsub  (F : xm_F p R s m args meth c M d D dA b B0 L xs) (hd : decode (xm_by M) pc = .ok (.lsub, len)) (ho : len = 1 ∧ ∃ (x : Int64) (y : Int64) (r : List Value), st = .long y :: .long x :: r ∧ xm_G p l e R s m args below meth c Qw D dA ad b B0 (xm_ml M) (pc + 1, lo, .long (x - y) :: r, h, cn, sn)) : xm_G p l e R s m args below meth c Qw D dA ad b B0 (xm_ml M) (pc, lo, st, h, cn, sn) := by
  obtain ⟨rfl, x, y, r, rfl, hk⟩ := ho
  intro ws H locs ls rst hc hs hI
  obtain ⟨iR, iP, iD, iS, iL, w1, r1, rfl, e1, w2, r2, rfl, e2, iT⟩ := hI
  have e1 : w1 = .long y := e1
  have e2 : w2 = .long x := e2
  subst e1; subst e2
  exact lv_lsub F.1.1 F.1.2.1 hd (hk ws H locs ls _ hc hs ⟨iR, iP, iD, iS, iL, _, _, rfl, rfl, iT⟩)
theorem xs_land  (F : xm_F p R s m args meth c M d D dA b B0 L xs) (hd : decode (xm_by M) pc = .ok (.land, len)) (ho : len = 1 ∧ ∃ (x : Int64) (y : Int64) (r : List Value), st = .long y :: .long x :: r ∧ xm_G p l e R s m args below meth c Qw D dA ad b B0 (xm_ml M) (pc + 1, lo, .long (x &&& y) :: r, h, cn, sn)) : xm_G p l e R s m args below meth c Qw D dA ad b B0 (xm_ml M) (pc, lo, st, h, cn, sn) := by
  obtain ⟨rfl, x, y, r, rfl, hk⟩ := ho
  intro ws H locs ls rst hc hs hI
  obtain ⟨iR, iP, iD, iS, iL, w1, r1, rfl, e1, w2, r2, rfl, e2, iT⟩ := hI
  have e1 : w1 = .long y := e1
  have e2 : w2 = .long x := e2
  subst e1; subst e2
  exact lv_land F.1.1 F.1.2.1 hd (hk ws H locs ls _ hc hs ⟨iR, iP, iD, iS, iL, _, _, rfl, rfl, iT⟩)
theorem xs_lor  (F : xm_F p R s m args meth c M d D dA b B0 L xs) (hd : decode (xm_by M) pc = .ok (.lor, len)) (ho : len = 1 ∧ ∃ (x : Int64) (y : Int64) (r : List Value), st = .long y :: .long x :: r ∧ xm_G p l e R s m args below meth c Qw D dA ad b B0 (xm_ml M) (pc + 1, lo, .long (x ||| y) :: r, h, cn, sn)) : xm_G p l e R s m args below meth c Qw D dA ad b B0 (xm_ml M) (pc, lo, st, h, cn, sn) := by
  obtain ⟨rfl, x, y, r, rfl, hk⟩ := ho
  intro ws H locs ls rst hc hs hI
  obtain ⟨iR, iP, iD, iS, iL, w1, r1, rfl, e1, w2, r2, rfl, e2, iT⟩ := hI
  have e1 : w1 = .long y := e1
  have e2 : w2 = .long x := e2
  subst e1; subst e2
  exact lv_lor F.1.1 F.1.2.1 hd (hk ws H locs ls _ hc hs ⟨iR, iP, iD, iS, iL, _, _, rfl, rfl, iT⟩)
theorem xs_lxor  (F : xm_F p R s m args meth c M d D dA b B0 L xs) (hd : decode (xm_by M) pc = .ok (.lxor, len)) (ho : len = 1 ∧ ∃ (x : Int64) (y : Int64) (r : List Value), st = .long y :: .long x :: r ∧ xm_G p l e R s m args below meth c Qw D dA ad b B0 (xm_ml M) (pc + 1, lo, .long (x ^^^ y) :: r, h, cn, sn)) : xm_G p l e R s m args below meth c Qw D dA ad b B0 (xm_ml M) (pc, lo, st, h, cn, sn) := by
  obtain ⟨rfl, x, y, r, rfl, hk⟩ := ho
  intro ws H locs ls rst hc hs hI
  obtain ⟨iR, iP, iD, iS, iL, w1, r1, rfl, e1, w2, r2, rfl, e2, iT⟩ := hI
  have e1 : w1 = .long y := e1
  have e2 : w2 = .long x := e2
  subst e1; subst e2
  exact lv_lxor F.1.1 F.1.2.1 hd (hk ws H locs ls _ hc hs ⟨iR, iP, iD, iS, iL, _, _, rfl, rfl, iT⟩)
theorem xs_lshl  (F : xm_F p R s m args meth c M d D dA b B0 L xs) (hd : decode (xm_by M) pc = .ok (.lshl, len)) (ho : len = 1 ∧ ∃ (x : Int64) (y : Int32) (r : List Value), st = .int y :: .long x :: r ∧ xm_G p l e R s m args below meth c Qw D dA ad b B0 (xm_ml M) (pc + 1, lo, .long (x <<< (y.toInt64 &&& 63)) :: r, h, cn, sn)) : xm_G p l e R s m args below meth c Qw D dA ad b B0 (xm_ml M) (pc, lo, st, h, cn, sn) := by
  obtain ⟨rfl, x, y, r, rfl, hk⟩ := ho
  intro ws H locs ls rst hc hs hI
  obtain ⟨iR, iP, iD, iS, iL, w1, r1, rfl, e1, w2, r2, rfl, e2, iT⟩ := hI
  have e1 : w1 = .int y := e1
  have e2 : w2 = .long x := e2
  subst e1; subst e2
  exact lv_lshl F.1.1 F.1.2.1 hd rfl (hk ws H locs ls _ hc hs ⟨iR, iP, iD, iS, iL, _, _, rfl, rfl, iT⟩)
theorem xs_lshr  (F : xm_F p R s m args meth c M d D dA b B0 L xs) (hd : decode (xm_by M) pc = .ok (.lshr, len)) (ho : len = 1 ∧ ∃ (x : Int64) (y : Int32) (r : List Value), st = .int y :: .long x :: r ∧ xm_G p l e R s m args below meth c Qw D dA ad b B0 (xm_ml M) (pc + 1, lo, .long (x >>> (y.toInt64 &&& 63)) :: r, h, cn, sn)) : xm_G p l e R s m args below meth c Qw D dA ad b B0 (xm_ml M) (pc, lo, st, h, cn, sn) := by
  obtain ⟨rfl, x, y, r, rfl, hk⟩ := ho
  intro ws H locs ls rst hc hs hI
  obtain ⟨iR, iP, iD, iS, iL, w1, r1, rfl, e1, w2, r2, rfl, e2, iT⟩ := hI
  have e1 : w1 = .int y := e1
  have e2 : w2 = .long x := e2
  subst e1; subst e2
  exact lv_lshr F.1.1 F.1.2.1 hd rfl (hk ws H locs ls _ hc hs ⟨iR, iP, iD, iS, iL, _, _, rfl, rfl, iT⟩)
theorem xs_lushr  (F : xm_F p R s m args meth c M d D dA b B0 L xs) (hd : decode (xm_by M) pc = .ok (.lushr, len)) (ho : len = 1 ∧ ∃ (x : Int64) (y : Int32) (r : List Value), st = .int y :: .long x :: r ∧ xm_G p l e R s m args below meth c Qw D dA ad b B0 (xm_ml M) (pc + 1, lo, .long (x.toUInt64 >>> (y.toInt64.toUInt64 &&& Int64.toUInt64 63)).toInt64 :: r, h, cn, sn)) : xm_G p l e R s m args below meth c Qw D dA ad b B0 (xm_ml M) (pc, lo, st, h, cn, sn) := by
  obtain ⟨rfl, x, y, r, rfl, hk⟩ := ho
  intro ws H locs ls rst hc hs hI
  obtain ⟨iR, iP, iD, iS, iL, w1, r1, rfl, e1, w2, r2, rfl, e2, iT⟩ := hI
  have e1 : w1 = .int y := e1
  have e2 : w2 = .long x := e2
  subst e1; subst e2
  exact lv_lushr F.1.1 F.1.2.1 hd rfl (hk ws H locs ls _ hc hs ⟨iR, iP, iD, iS, iL, _, _, rfl, rfl, iT⟩)
theorem xs_lcmp  (F : xm_F p R s m args meth c M d D dA b B0 L xs) (hd : decode (xm_by M) pc = .ok (.lcmp, len)) (ho : len = 1 ∧ ∃ (x : Int64) (y : Int64) (r : List Value), st = .long y :: .long x :: r ∧ xm_G p l e R s m args below meth c Qw D dA ad b B0 (xm_ml M) (pc + 1, lo, .int (lg_cmp x y) :: r, h, cn, sn)) : xm_G p l e R s m args below meth c Qw D dA ad b B0 (xm_ml M) (pc, lo, st, h, cn, sn) := by
  obtain ⟨rfl, x, y, r, rfl, hk⟩ := ho
  intro ws H locs ls rst hc hs hI
  obtain ⟨iR, iP, iD, iS, iL, w1, r1, rfl, e1, w2, r2, rfl, e2, iT⟩ := hI
  have e1 : w1 = .long y := e1
  have e2 : w2 = .long x := e2
  subst e1; subst e2
  exact W.lcmp F.1.1 F.1.2.1 hd (hk ws H locs ls _ hc hs ⟨iR, iP, iD, iS, iL, _, _, rfl, rfl, iT⟩)
theorem xs_i2l  (F : xm_F p R s m args meth c M d D dA b B0 L xs) (hd : decode (xm_by M) pc = .ok (.i2l, len)) (ho : len = 1 ∧ ∃ (x : Int32) (r : List Value), st = .int x :: r ∧ xm_G p l e R s m args below meth c Qw D dA ad b B0 (xm_ml M) (pc + 1, lo, .long x.toInt64 :: r, h, cn, sn)) : xm_G p l e R s m args below meth c Qw D dA ad b B0 (xm_ml M) (pc, lo, st, h, cn, sn) := by
  obtain ⟨rfl, x, r, rfl, hk⟩ := ho
  intro ws H locs ls rst hc hs hI
  obtain ⟨iR, iP, iD, iS, iL, w1, r1, rfl, e1, iT⟩ := hI
  have e1 : w1 = .int x := e1
  subst e1
  exact lv_i2l F.1.1 F.1.2.1 hd rfl (hk ws H locs ls _ hc hs ⟨iR, iP, iD, iS, iL, _, _, rfl, rfl, iT⟩)
theorem xs_l2i  (F : xm_F p R s m args meth c M d D dA b B0 L xs) (hd : decode (xm_by M) pc = .ok (.l2i, len)) (ho : len = 1 ∧ ∃ (x : Int64) (r : List Value), st = .long x :: r ∧ xm_G p l e R s m args below meth c Qw D dA ad b B0 (xm_ml M) (pc + 1, lo, .int x.toInt32 :: r, h, cn, sn)) : xm_G p l e R s m args below meth c Qw D dA ad b B0 (xm_ml M) (pc, lo, st, h, cn, sn) := by
  obtain ⟨rfl, x, r, rfl, hk⟩ := ho
  intro ws H locs ls rst hc hs hI
  obtain ⟨iR, iP, iD, iS, iL, w1, r1, rfl, e1, iT⟩ := hI
  have e1 : w1 = .long x := e1
  subst e1
  exact lv_l2i F.1.1 F.1.2.1 hd rfl (hk ws H locs ls _ hc hs ⟨iR, iP, iD, iS, iL, _, _, rfl, rfl, iT⟩)
theorem xs_ifeq {off : Int} (F : xm_F p R s m args meth c M d D dA b B0 L xs) (hd : decode (xm_by M) pc = .ok (.ifCond .eq off, len)) (ho : len = 3 ∧ ∃ (t : Nat) (x : Int32) (r : List Value), (pc : Int) + off = (t : Int) ∧ st = .int x :: r ∧ (x = 0 → xm_G p l e R s m args below meth c Qw D dA ad b B0 (xm_ml M) (t, lo, r, h, cn, sn)) ∧ (¬ x = 0 → xm_G p l e R s m args below meth c Qw D dA ad b B0 (xm_ml M) (pc + 3, lo, r, h, cn, sn))) : xm_G p l e R s m args below meth c Qw D dA ad b B0 (xm_ml M) (pc, lo, st, h, cn, sn) := by
  obtain ⟨rfl, t, x, r, ht, rfl, hk, hk2⟩ := ho
  intro ws H locs ls rst hc hs hI
  obtain ⟨iR, iP, iD, iS, iL, w1, r1, rfl, e1, iT⟩ := hI
  have e1 : w1 = .int x := e1
  subst e1
  exact lv_if_eq F.1.1 F.1.2.1 hd ht (fun q => hk q ws H locs ls _ hc hs ⟨iR, iP, iD, iS, iL, iT⟩) (fun q => hk2 q ws H locs ls _ hc hs ⟨iR, iP, iD, iS, iL, iT⟩)
theorem xs_ifne {off : Int} (F : xm_F p R s m args meth c M d D dA b B0 L xs) (hd : decode (xm_by M) pc = .ok (.ifCond .ne off, len)) (ho : len = 3 ∧ ∃ (t : Nat) (x : Int32) (r : List Value), (pc : Int) + off = (t : Int) ∧ st = .int x :: r ∧ (¬ x = 0 → xm_G p l e R s m args below meth c Qw D dA ad b B0 (xm_ml M) (t, lo, r, h, cn, sn)) ∧ (x = 0 → xm_G p l e R s m args below meth c Qw D dA ad b B0 (xm_ml M) (pc + 3, lo, r, h, cn, sn))) : xm_G p l e R s m args below meth c Qw D dA ad b B0 (xm_ml M) (pc, lo, st, h, cn, sn) := by
  obtain ⟨rfl, t, x, r, ht, rfl, hk, hk2⟩ := ho
  intro ws H locs ls rst hc hs hI
  obtain ⟨iR, iP, iD, iS, iL, w1, r1, rfl, e1, iT⟩ := hI
  have e1 : w1 = .int x := e1
  subst e1
  exact lv_if_ne F.1.1 F.1.2.1 hd ht (fun q => hk q ws H locs ls _ hc hs ⟨iR, iP, iD, iS, iL, iT⟩) (fun q => hk2 q ws H locs ls _ hc hs ⟨iR, iP, iD, iS, iL, iT⟩)
theorem xs_iflt {off : Int} (F : xm_F p R s m args meth c M d D dA b B0 L xs) (hd : decode (xm_by M) pc = .ok (.ifCond .lt off, len)) (ho : len = 3 ∧ ∃ (t : Nat) (x : Int32) (r : List Value), (pc : Int) + off = (t : Int) ∧ st = .int x :: r ∧ (x < 0 → xm_G p l e R s m args below meth c Qw D dA ad b B0 (xm_ml M) (t, lo, r, h, cn, sn)) ∧ (¬ x < 0 → xm_G p l e R s m args below meth c Qw D dA ad b B0 (xm_ml M) (pc + 3, lo, r, h, cn, sn))) : xm_G p l e R s m args below meth c Qw D dA ad b B0 (xm_ml M) (pc, lo, st, h, cn, sn) := by
  obtain ⟨rfl, t, x, r, ht, rfl, hk, hk2⟩ := ho
  intro ws H locs ls rst hc hs hI
  obtain ⟨iR, iP, iD, iS, iL, w1, r1, rfl, e1, iT⟩ := hI
  have e1 : w1 = .int x := e1
  subst e1
  exact lv_if_lt F.1.1 F.1.2.1 hd ht (fun q => hk q ws H locs ls _ hc hs ⟨iR, iP, iD, iS, iL, iT⟩) (fun q => hk2 q ws H locs ls _ hc hs ⟨iR, iP, iD, iS, iL, iT⟩)
theorem xs_ifge {off : Int} (F : xm_F p R s m args meth c M d D dA b B0 L xs) (hd : decode (xm_by M) pc = .ok (.ifCond .ge off, len)) (ho : len = 3 ∧ ∃ (t : Nat) (x : Int32) (r : List Value), (pc : Int) + off = (t : Int) ∧ st = .int x :: r ∧ (0 ≤ x → xm_G p l e R s m args below meth c Qw D dA ad b B0 (xm_ml M) (t, lo, r, h, cn, sn)) ∧ (¬ 0 ≤ x → xm_G p l e R s m args below meth c Qw D dA ad b B0 (xm_ml M) (pc + 3, lo, r, h, cn, sn))) : xm_G p l e R s m args below meth c Qw D dA ad b B0 (xm_ml M) (pc, lo, st, h, cn, sn) := by
  obtain ⟨rfl, t, x, r, ht, rfl, hk, hk2⟩ := ho
  intro ws H locs ls rst hc hs hI
  obtain ⟨iR, iP, iD, iS, iL, w1, r1, rfl, e1, iT⟩ := hI
  have e1 : w1 = .int x := e1
  subst e1
  exact lv_if_ge F.1.1 F.1.2.1 hd ht (fun q => hk q ws H locs ls _ hc hs ⟨iR, iP, iD, iS, iL, iT⟩) (fun q => hk2 q ws H locs ls _ hc hs ⟨iR, iP, iD, iS, iL, iT⟩)
theorem xs_ifgt {off : Int} (F : xm_F p R s m args meth c M d D dA b B0 L xs) (hd : decode (xm_by M) pc = .ok (.ifCond .gt off, len)) (ho : len = 3 ∧ ∃ (t : Nat) (x : Int32) (r : List Value), (pc : Int) + off = (t : Int) ∧ st = .int x :: r ∧ (0 < x → xm_G p l e R s m args below meth c Qw D dA ad b B0 (xm_ml M) (t, lo, r, h, cn, sn)) ∧ (¬ 0 < x → xm_G p l e R s m args below meth c Qw D dA ad b B0 (xm_ml M) (pc + 3, lo, r, h, cn, sn))) : xm_G p l e R s m args below meth c Qw D dA ad b B0 (xm_ml M) (pc, lo, st, h, cn, sn) := by
  obtain ⟨rfl, t, x, r, ht, rfl, hk, hk2⟩ := ho
  intro ws H locs ls rst hc hs hI
  obtain ⟨iR, iP, iD, iS, iL, w1, r1, rfl, e1, iT⟩ := hI
  have e1 : w1 = .int x := e1
  subst e1
  exact lv_if_gt F.1.1 F.1.2.1 hd ht (fun q => hk q ws H locs ls _ hc hs ⟨iR, iP, iD, iS, iL, iT⟩) (fun q => hk2 q ws H locs ls _ hc hs ⟨iR, iP, iD, iS, iL, iT⟩)
theorem xs_ifle {off : Int} (F : xm_F p R s m args meth c M d D dA b B0 L xs) (hd : decode (xm_by M) pc = .ok (.ifCond .le off, len)) (ho : len = 3 ∧ ∃ (t : Nat) (x : Int32) (r : List Value), (pc : Int) + off = (t : Int) ∧ st = .int x :: r ∧ (x ≤ 0 → xm_G p l e R s m args below meth c Qw D dA ad b B0 (xm_ml M) (t, lo, r, h, cn, sn)) ∧ (¬ x ≤ 0 → xm_G p l e R s m args below meth c Qw D dA ad b B0 (xm_ml M) (pc + 3, lo, r, h, cn, sn))) : xm_G p l e R s m args below meth c Qw D dA ad b B0 (xm_ml M) (pc, lo, st, h, cn, sn) := by
  obtain ⟨rfl, t, x, r, ht, rfl, hk, hk2⟩ := ho
  intro ws H locs ls rst hc hs hI
  obtain ⟨iR, iP, iD, iS, iL, w1, r1, rfl, e1, iT⟩ := hI
  have e1 : w1 = .int x := e1
  subst e1
  exact lv_if_le F.1.1 F.1.2.1 hd ht (fun q => hk q ws H locs ls _ hc hs ⟨iR, iP, iD, iS, iL, iT⟩) (fun q => hk2 q ws H locs ls _ hc hs ⟨iR, iP, iD, iS, iL, iT⟩)
theorem xs_icmpeq {off : Int} (F : xm_F p R s m args meth c M d D dA b B0 L xs) (hd : decode (xm_by M) pc = .ok (.if_icmp .eq off, len)) (ho : len = 3 ∧ ∃ (t : Nat) (x y : Int32) (r : List Value), (pc : Int) + off = (t : Int) ∧ st = .int y :: .int x :: r ∧ (x = y → xm_G p l e R s m args below meth c Qw D dA ad b B0 (xm_ml M) (t, lo, r, h, cn, sn)) ∧ (¬ x = y → xm_G p l e R s m args below meth c Qw D dA ad b B0 (xm_ml M) (pc + 3, lo, r, h, cn, sn))) : xm_G p l e R s m args below meth c Qw D dA ad b B0 (xm_ml M) (pc, lo, st, h, cn, sn) := by
  obtain ⟨rfl, t, x, y, r, ht, rfl, hk, hk2⟩ := ho
  intro ws H locs ls rst hc hs hI
  obtain ⟨iR, iP, iD, iS, iL, w1, r1, rfl, e1, w2, r2, rfl, e2, iT⟩ := hI
  have e1 : w1 = .int y := e1
  have e2 : w2 = .int x := e2
  subst e1; subst e2
  exact lv_icmp_eq F.1.1 F.1.2.1 hd ht (fun q => hk q ws H locs ls _ hc hs ⟨iR, iP, iD, iS, iL, iT⟩) (fun q => hk2 q ws H locs ls _ hc hs ⟨iR, iP, iD, iS, iL, iT⟩)
theorem xs_icmpne {off : Int} (F : xm_F p R s m args meth c M d D dA b B0 L xs) (hd : decode (xm_by M) pc = .ok (.if_icmp .ne off, len)) (ho : len = 3 ∧ ∃ (t : Nat) (x y : Int32) (r : List Value), (pc : Int) + off = (t : Int) ∧ st = .int y :: .int x :: r ∧ (¬ x = y → xm_G p l e R s m args below meth c Qw D dA ad b B0 (xm_ml M) (t, lo, r, h, cn, sn)) ∧ (x = y → xm_G p l e R s m args below meth c Qw D dA ad b B0 (xm_ml M) (pc + 3, lo, r, h, cn, sn))) : xm_G p l e R s m args below meth c Qw D dA ad b B0 (xm_ml M) (pc, lo, st, h, cn, sn) := by
  obtain ⟨rfl, t, x, y, r, ht, rfl, hk, hk2⟩ := ho
  intro ws H locs ls rst hc hs hI
  obtain ⟨iR, iP, iD, iS, iL, w1, r1, rfl, e1, w2, r2, rfl, e2, iT⟩ := hI
  have e1 : w1 = .int y := e1
  have e2 : w2 = .int x := e2
  subst e1; subst e2
  exact lv_icmp_ne F.1.1 F.1.2.1 hd ht (fun q => hk q ws H locs ls _ hc hs ⟨iR, iP, iD, iS, iL, iT⟩) (fun q => hk2 q ws H locs ls _ hc hs ⟨iR, iP, iD, iS, iL, iT⟩)
theorem xs_icmplt {off : Int} (F : xm_F p R s m args meth c M d D dA b B0 L xs) (hd : decode (xm_by M) pc = .ok (.if_icmp .lt off, len)) (ho : len = 3 ∧ ∃ (t : Nat) (x y : Int32) (r : List Value), (pc : Int) + off = (t : Int) ∧ st = .int y :: .int x :: r ∧ (x < y → xm_G p l e R s m args below meth c Qw D dA ad b B0 (xm_ml M) (t, lo, r, h, cn, sn)) ∧ (¬ x < y → xm_G p l e R s m args below meth c Qw D dA ad b B0 (xm_ml M) (pc + 3, lo, r, h, cn, sn))) : xm_G p l e R s m args below meth c Qw D dA ad b B0 (xm_ml M) (pc, lo, st, h, cn, sn) := by
  obtain ⟨rfl, t, x, y, r, ht, rfl, hk, hk2⟩ := ho
  intro ws H locs ls rst hc hs hI
  obtain ⟨iR, iP, iD, iS, iL, w1, r1, rfl, e1, w2, r2, rfl, e2, iT⟩ := hI
  have e1 : w1 = .int y := e1
  have e2 : w2 = .int x := e2
  subst e1; subst e2
  exact lv_icmp_lt F.1.1 F.1.2.1 hd ht (fun q => hk q ws H locs ls _ hc hs ⟨iR, iP, iD, iS, iL, iT⟩) (fun q => hk2 q ws H locs ls _ hc hs ⟨iR, iP, iD, iS, iL, iT⟩)
theorem xs_icmpge {off : Int} (F : xm_F p R s m args meth c M d D dA b B0 L xs) (hd : decode (xm_by M) pc = .ok (.if_icmp .ge off, len)) (ho : len = 3 ∧ ∃ (t : Nat) (x y : Int32) (r : List Value), (pc : Int) + off = (t : Int) ∧ st = .int y :: .int x :: r ∧ (y ≤ x → xm_G p l e R s m args below meth c Qw D dA ad b B0 (xm_ml M) (t, lo, r, h, cn, sn)) ∧ (¬ y ≤ x → xm_G p l e R s m args below meth c Qw D dA ad b B0 (xm_ml M) (pc + 3, lo, r, h, cn, sn))) : xm_G p l e R s m args below meth c Qw D dA ad b B0 (xm_ml M) (pc, lo, st, h, cn, sn) := by
  obtain ⟨rfl, t, x, y, r, ht, rfl, hk, hk2⟩ := ho
  intro ws H locs ls rst hc hs hI
  obtain ⟨iR, iP, iD, iS, iL, w1, r1, rfl, e1, w2, r2, rfl, e2, iT⟩ := hI
  have e1 : w1 = .int y := e1
  have e2 : w2 = .int x := e2
  subst e1; subst e2
  exact lv_icmp_ge F.1.1 F.1.2.1 hd ht (fun q => hk q ws H locs ls _ hc hs ⟨iR, iP, iD, iS, iL, iT⟩) (fun q => hk2 q ws H locs ls _ hc hs ⟨iR, iP, iD, iS, iL, iT⟩)
theorem xs_icmpgt {off : Int} (F : xm_F p R s m args meth c M d D dA b B0 L xs) (hd : decode (xm_by M) pc = .ok (.if_icmp .gt off, len)) (ho : len = 3 ∧ ∃ (t : Nat) (x y : Int32) (r : List Value), (pc : Int) + off = (t : Int) ∧ st = .int y :: .int x :: r ∧ (y < x → xm_G p l e R s m args below meth c Qw D dA ad b B0 (xm_ml M) (t, lo, r, h, cn, sn)) ∧ (¬ y < x → xm_G p l e R s m args below meth c Qw D dA ad b B0 (xm_ml M) (pc + 3, lo, r, h, cn, sn))) : xm_G p l e R s m args below meth c Qw D dA ad b B0 (xm_ml M) (pc, lo, st, h, cn, sn) := by
  obtain ⟨rfl, t, x, y, r, ht, rfl, hk, hk2⟩ := ho
  intro ws H locs ls rst hc hs hI
  obtain ⟨iR, iP, iD, iS, iL, w1, r1, rfl, e1, w2, r2, rfl, e2, iT⟩ := hI
  have e1 : w1 = .int y := e1
  have e2 : w2 = .int x := e2
  subst e1; subst e2
  exact lv_icmp_gt F.1.1 F.1.2.1 hd ht (fun q => hk q ws H locs ls _ hc hs ⟨iR, iP, iD, iS, iL, iT⟩) (fun q => hk2 q ws H locs ls _ hc hs ⟨iR, iP, iD, iS, iL, iT⟩)
theorem xs_icmple {off : Int} (F : xm_F p R s m args meth c M d D dA b B0 L xs) (hd : decode (xm_by M) pc = .ok (.if_icmp .le off, len)) (ho : len = 3 ∧ ∃ (t : Nat) (x y : Int32) (r : List Value), (pc : Int) + off = (t : Int) ∧ st = .int y :: .int x :: r ∧ (x ≤ y → xm_G p l e R s m args below meth c Qw D dA ad b B0 (xm_ml M) (t, lo, r, h, cn, sn)) ∧ (¬ x ≤ y → xm_G p l e R s m args below meth c Qw D dA ad b B0 (xm_ml M) (pc + 3, lo, r, h, cn, sn))) : xm_G p l e R s m args below meth c Qw D dA ad b B0 (xm_ml M) (pc, lo, st, h, cn, sn) := by
  obtain ⟨rfl, t, x, y, r, ht, rfl, hk, hk2⟩ := ho
  intro ws H locs ls rst hc hs hI
  obtain ⟨iR, iP, iD, iS, iL, w1, r1, rfl, e1, w2, r2, rfl, e2, iT⟩ := hI
  have e1 : w1 = .int y := e1
  have e2 : w2 = .int x := e2
  subst e1; subst e2
  exact lv_icmp_le F.1.1 F.1.2.1 hd ht (fun q => hk q ws H locs ls _ hc hs ⟨iR, iP, iD, iS, iL, iT⟩) (fun q => hk2 q ws H locs ls _ hc hs ⟨iR, iP, iD, iS, iL, iT⟩)
theorem xs_goto {off : Int} (F : xm_F p R s m args meth c M d D dA b B0 L xs) (hd : decode (xm_by M) pc = .ok (.goto off, len)) (ho : len = 3 ∧ ∃ t : Nat, (pc : Int) + off = (t : Int) ∧ xm_G p l e R s m args below meth c Qw D dA ad b B0 (xm_ml M) (t, lo, st, h, cn, sn)) : xm_G p l e R s m args below meth c Qw D dA ad b B0 (xm_ml M) (pc, lo, st, h, cn, sn) := by
  obtain ⟨rfl, t, ht, hk⟩ := ho
  intro ws H locs ls rst hc hs hI
  exact lv_goto F.1.1 F.1.2.1 hd ht (hk ws H locs ls _ hc hs hI)
theorem xs_tableswitch {d0 l0 h0 : Int} {offs : Array Int} (F : xm_F p R s m args meth c M d D dA b B0 L xs) (hd : decode (xm_by M) pc = .ok (.tableswitch d0 l0 h0 offs, len)) (ho : ∃ (x : Int32) (r : List Value), st = .int x :: r ∧ ∃ tg : Nat, (((x.toInt < l0 ∨ h0 < x.toInt) ∧ (pc : Int) + d0 = (tg : Int)) ∨ (¬ x.toInt < l0 ∧ ¬ h0 < x.toInt ∧ ∃ off, offs[(x.toInt - l0).toNat]? = some off ∧ (pc : Int) + off = (tg : Int))) ∧ xm_G p l e R s m args below meth c Qw D dA ad b B0 (xm_ml M) (tg, lo, r, h, cn, sn)) : xm_G p l e R s m args below meth c Qw D dA ad b B0 (xm_ml M) (pc, lo, st, h, cn, sn) := by
  obtain ⟨x, r, rfl, tg, ht, hk⟩ := ho
  intro ws H locs ls rst hc hs hI
  obtain ⟨iR, iP, iD, iS, iL, w1, r1, rfl, e1, iT⟩ := hI
  have e1 : w1 = .int x := e1
  subst e1
  have hw := hk ws H locs ls _ hc hs ⟨iR, iP, iD, iS, iL, iT⟩
  rcases ht with ⟨h1, h2⟩ | ⟨h1, h2, off, h3, h4⟩
  · exact lv_tableOut F.1.1 F.1.2.1 hd h1 h2 hw
  · exact lv_tableIn F.1.1 F.1.2.1 hd h1 h2 h3 h4 hw
theorem xs_iconst {n : Int} (F : xm_F p R s m args meth c M d D dA b B0 L xs) (hd : decode (xm_by M) pc = .ok (.iconst n, len)) (ho : len = 1 ∧ xm_G p l e R s m args below meth c Qw D dA ad b B0 (xm_ml M) (pc + 1, lo, .int (Int32.ofInt n) :: st, h, cn, sn)) : xm_G p l e R s m args below meth c Qw D dA ad b B0 (xm_ml M) (pc, lo, st, h, cn, sn) := by
  obtain ⟨rfl, hk⟩ := ho
  intro ws H locs ls rst hc hs hI
  obtain ⟨iR, iP, iD, iS, iL, iT⟩ := hI
  exact lv_iconst F.1.1 F.1.2.1 hd rfl (hk ws H locs ls _ hc hs ⟨iR, iP, iD, iS, iL, _, _, rfl, rfl, iT⟩)
theorem xs_bipush {n : Int} (F : xm_F p R s m args meth c M d D dA b B0 L xs) (hd : decode (xm_by M) pc = .ok (.bipush n, len)) (ho : len = 2 ∧ xm_G p l e R s m args below meth c Qw D dA ad b B0 (xm_ml M) (pc + 2, lo, .int ((Int8.ofInt n).toInt32) :: st, h, cn, sn)) : xm_G p l e R s m args below meth c Qw D dA ad b B0 (xm_ml M) (pc, lo, st, h, cn, sn) := by
  obtain ⟨rfl, hk⟩ := ho
  intro ws H locs ls rst hc hs hI
  obtain ⟨iR, iP, iD, iS, iL, iT⟩ := hI
  exact lv_bipush F.1.1 F.1.2.1 hd rfl (hk ws H locs ls _ hc hs ⟨iR, iP, iD, iS, iL, _, _, rfl, rfl, iT⟩)
theorem xs_sipush {n : Int} (F : xm_F p R s m args meth c M d D dA b B0 L xs) (hd : decode (xm_by M) pc = .ok (.sipush n, len)) (ho : len = 3 ∧ xm_G p l e R s m args below meth c Qw D dA ad b B0 (xm_ml M) (pc + 3, lo, .int ((Int16.ofInt n).toInt32) :: st, h, cn, sn)) : xm_G p l e R s m args below meth c Qw D dA ad b B0 (xm_ml M) (pc, lo, st, h, cn, sn) := by
  obtain ⟨rfl, hk⟩ := ho
  intro ws H locs ls rst hc hs hI
  obtain ⟨iR, iP, iD, iS, iL, iT⟩ := hI
  exact lv_sipush F.1.1 F.1.2.1 hd rfl (hk ws H locs ls _ hc hs ⟨iR, iP, iD, iS, iL, _, _, rfl, rfl, iT⟩)
theorem xs_lconst {n : Fin 2} (F : xm_F p R s m args meth c M d D dA b B0 L xs) (hd : decode (xm_by M) pc = .ok (.lconst n, len)) (ho : len = 1 ∧ xm_G p l e R s m args below meth c Qw D dA ad b B0 (xm_ml M) (pc + 1, lo, .long (Int64.ofNat (n : Nat)) :: st, h, cn, sn)) : xm_G p l e R s m args below meth c Qw D dA ad b B0 (xm_ml M) (pc, lo, st, h, cn, sn) := by
  obtain ⟨rfl, hk⟩ := ho
  intro ws H locs ls rst hc hs hI
  obtain ⟨iR, iP, iD, iS, iL, iT⟩ := hI
  exact lv_lconst F.1.1 F.1.2.1 hd rfl (hk ws H locs ls _ hc hs ⟨iR, iP, iD, iS, iL, _, _, rfl, rfl, iT⟩)
theorem xs_ldc2_w {k : Nat} (F : xm_F p R s m args meth c M d D dA b B0 L xs) (hd : decode (xm_by M) pc = .ok (.ldc2_w k, len)) (ho : len = 3 ∧ ∃ x : Int64, Cond.constantLong (xm_y M).cls k x ∈ tb_all ∧ xm_G p l e R s m args below meth c Qw D dA ad b B0 (xm_ml M) (pc + 3, lo, .long x :: st, h, cn, sn)) : xm_G p l e R s m args below meth c Qw D dA ad b B0 (xm_ml M) (pc, lo, st, h, cn, sn) := by
  obtain ⟨rfl, x, hx, hk⟩ := ho
  intro ws H locs ls rst hc hs hI
  obtain ⟨iR, iP, iD, iS, iL, iT⟩ := hI
  exact lv_ldc2 F.1.1 F.1.2.1 F.1.2.2.2.1 (F.1.2.2.2.2 _ hx) hd (hk ws H locs ls _ hc hs ⟨iR, iP, iD, iS, iL, _, _, rfl, rfl, iT⟩)
theorem xs_iload_n {n : Fin 4} (F : xm_F p R s m args meth c M d D dA b B0 L xs) (hd : decode (xm_by M) pc = .ok (.iload_n n, len)) (ho : len = 1 ∧ ∃ x, lo[(n : Nat)]? = some (.int x) ∧ xm_G p l e R s m args below meth c Qw D dA ad b B0 (xm_ml M) (pc + 1, lo, .int x :: st, h, cn, sn)) : xm_G p l e R s m args below meth c Qw D dA ad b B0 (xm_ml M) (pc, lo, st, h, cn, sn) := by
  obtain ⟨rfl, x, hx, hk⟩ := ho
  intro ws H locs ls rst hc hs hI
  obtain ⟨iR, iP, iD, iS, iL, iT⟩ := hI
  obtain ⟨w, e1, e2⟩ := iL.2.2.2 _ _ ⟨hx, trivial⟩
  have e1 : w = .int x := e1
  subst e1
  exact lv_iload_n F.1.1 F.1.2.1 hd rfl e2 (hk ws H locs ls _ hc hs ⟨iR, iP, iD, iS, iL, _, _, rfl, rfl, iT⟩)
theorem xs_iload {n : Nat} (F : xm_F p R s m args meth c M d D dA b B0 L xs) (hd : decode (xm_by M) pc = .ok (.iload n, len)) (ho : len = 2 ∧ ∃ x, lo[n]? = some (.int x) ∧ xm_G p l e R s m args below meth c Qw D dA ad b B0 (xm_ml M) (pc + 2, lo, .int x :: st, h, cn, sn)) : xm_G p l e R s m args below meth c Qw D dA ad b B0 (xm_ml M) (pc, lo, st, h, cn, sn) := by
  obtain ⟨rfl, x, hx, hk⟩ := ho
  intro ws H locs ls rst hc hs hI
  obtain ⟨iR, iP, iD, iS, iL, iT⟩ := hI
  obtain ⟨w, e1, e2⟩ := iL.2.2.2 _ _ ⟨hx, trivial⟩
  have e1 : w = .int x := e1
  subst e1
  exact lv_iload F.1.1 F.1.2.1 hd e2 (hk ws H locs ls _ hc hs ⟨iR, iP, iD, iS, iL, _, _, rfl, rfl, iT⟩)
theorem xs_lload_n {n : Fin 4} (F : xm_F p R s m args meth c M d D dA b B0 L xs) (hd : decode (xm_by M) pc = .ok (.lload_n n, len)) (ho : len = 1 ∧ ∃ x z, lo[(n : Nat)]? = some (.long x) ∧ lo[(n : Nat) + 1]? = some (.float z) ∧ xm_G p l e R s m args below meth c Qw D dA ad b B0 (xm_ml M) (pc + 1, lo, .long x :: st, h, cn, sn)) : xm_G p l e R s m args below meth c Qw D dA ad b B0 (xm_ml M) (pc, lo, st, h, cn, sn) := by
  obtain ⟨rfl, x, z, hx, hz, hk⟩ := ho
  intro ws H locs ls rst hc hs hI
  obtain ⟨iR, iP, iD, iS, iL, iT⟩ := hI
  obtain ⟨w, e1, e2⟩ := iL.2.2.2 _ _ ⟨hx, z, hz⟩
  have e1 : w = .long x := e1
  subst e1
  exact lv_lload_n F.1.1 F.1.2.1 hd rfl e2 (hk ws H locs ls _ hc hs ⟨iR, iP, iD, iS, iL, _, _, rfl, rfl, iT⟩)
theorem xs_lload {n : Nat} (F : xm_F p R s m args meth c M d D dA b B0 L xs) (hd : decode (xm_by M) pc = .ok (.lload n, len)) (ho : len = 2 ∧ ∃ x z, lo[n]? = some (.long x) ∧ lo[n + 1]? = some (.float z) ∧ xm_G p l e R s m args below meth c Qw D dA ad b B0 (xm_ml M) (pc + 2, lo, .long x :: st, h, cn, sn)) : xm_G p l e R s m args below meth c Qw D dA ad b B0 (xm_ml M) (pc, lo, st, h, cn, sn) := by
  obtain ⟨rfl, x, z, hx, hz, hk⟩ := ho
  intro ws H locs ls rst hc hs hI
  obtain ⟨iR, iP, iD, iS, iL, iT⟩ := hI
  obtain ⟨w, e1, e2⟩ := iL.2.2.2 _ _ ⟨hx, z, hz⟩
  have e1 : w = .long x := e1
  subst e1
  exact lv_lload F.1.1 F.1.2.1 hd e2 (hk ws H locs ls _ hc hs ⟨iR, iP, iD, iS, iL, _, _, rfl, rfl, iT⟩)
theorem xs_istore_n {n : Fin 4} (F : xm_F p R s m args meth c M d D dA b B0 L xs) (hd : decode (xm_by M) pc = .ok (.istore_n n, len)) (ho : len = 1 ∧ ∃ x r, st = .int x :: r ∧ (n : Nat) < lo.length ∧ xm_G p l e R s m args below meth c Qw D dA ad b B0 (xm_ml M) (pc + 1, lo.set (n : Nat) (.int x), r, h, cn, sn)) : xm_G p l e R s m args below meth c Qw D dA ad b B0 (xm_ml M) (pc, lo, st, h, cn, sn) := by
  obtain ⟨rfl, x, r, rfl, hn, hk⟩ := ho
  intro ws H locs ls rst hc hs hI
  obtain ⟨iR, iP, iD, iS, iL, w1, r1, rfl, e1, iT⟩ := hI
  have e1 : w1 = .int x := e1
  subst e1
  exact lv_istore_n F.1.1 F.1.2.1 hd rfl (xm_all_has iL) (by rw [← iL.2.2.1]; exact hn) rfl (fun ls' hl => hk ws H locs ls' _ hc hs ⟨iR, iP, iD, iS, xm_l_set1 iL hn rfl rfl hl, iT⟩)
theorem xs_istore {n : Nat} (F : xm_F p R s m args meth c M d D dA b B0 L xs) (hd : decode (xm_by M) pc = .ok (.istore n, len)) (ho : len = 2 ∧ ∃ x r, st = .int x :: r ∧ n < lo.length ∧ xm_G p l e R s m args below meth c Qw D dA ad b B0 (xm_ml M) (pc + 2, lo.set n (.int x), r, h, cn, sn)) : xm_G p l e R s m args below meth c Qw D dA ad b B0 (xm_ml M) (pc, lo, st, h, cn, sn) := by
  obtain ⟨rfl, x, r, rfl, hn, hk⟩ := ho
  intro ws H locs ls rst hc hs hI
  obtain ⟨iR, iP, iD, iS, iL, w1, r1, rfl, e1, iT⟩ := hI
  have e1 : w1 = .int x := e1
  subst e1
  exact lv_istore F.1.1 F.1.2.1 hd (xm_all_has iL) (by rw [← iL.2.2.1]; exact hn) rfl (fun ls' hl => hk ws H locs ls' _ hc hs ⟨iR, iP, iD, iS, xm_l_set1 iL hn rfl rfl hl, iT⟩)
theorem xs_lstore_n {n : Fin 4} (F : xm_F p R s m args meth c M d D dA b B0 L xs) (hd : decode (xm_by M) pc = .ok (.lstore_n n, len)) (ho : len = 1 ∧ ∃ x r, st = .long x :: r ∧ (n : Nat) + 1 < lo.length ∧ xm_G p l e R s m args below meth c Qw D dA ad b B0 (xm_ml M) (pc + 1, (lo.set (n : Nat) (.long x)).set ((n : Nat) + 1) (.float 0), r, h, cn, sn)) : xm_G p l e R s m args below meth c Qw D dA ad b B0 (xm_ml M) (pc, lo, st, h, cn, sn) := by
  obtain ⟨rfl, x, r, rfl, hn, hk⟩ := ho
  intro ws H locs ls rst hc hs hI
  obtain ⟨iR, iP, iD, iS, iL, w1, r1, rfl, e1, iT⟩ := hI
  have e1 : w1 = .long x := e1
  subst e1
  exact lv_lstore_n F.1.1 F.1.2.1 hd rfl (xm_all_has iL) (by rw [← iL.2.2.1]; exact hn) rfl (fun ls' hl => hk ws H locs ls' _ hc hs ⟨iR, iP, iD, iS, xm_l_set2 iL hn hl, iT⟩)
theorem xs_lstore {n : Nat} (F : xm_F p R s m args meth c M d D dA b B0 L xs) (hd : decode (xm_by M) pc = .ok (.lstore n, len)) (ho : len = 2 ∧ ∃ x r, st = .long x :: r ∧ n + 1 < lo.length ∧ xm_G p l e R s m args below meth c Qw D dA ad b B0 (xm_ml M) (pc + 2, (lo.set n (.long x)).set (n + 1) (.float 0), r, h, cn, sn)) : xm_G p l e R s m args below meth c Qw D dA ad b B0 (xm_ml M) (pc, lo, st, h, cn, sn) := by
  obtain ⟨rfl, x, r, rfl, hn, hk⟩ := ho
  intro ws H locs ls rst hc hs hI
  obtain ⟨iR, iP, iD, iS, iL, w1, r1, rfl, e1, iT⟩ := hI
  have e1 : w1 = .long x := e1
  subst e1
  exact lv_lstore F.1.1 F.1.2.1 hd (xm_all_has iL) (by rw [← iL.2.2.1]; exact hn) rfl (fun ls' hl => hk ws H locs ls' _ hc hs ⟨iR, iP, iD, iS, xm_l_set2 iL hn hl, iT⟩)
theorem xs_astore_n {n : Fin 4} (F : xm_F p R s m args meth c M d D dA b B0 L xs) (hd : decode (xm_by M) pc = .ok (.astore_n n, len)) (ho : len = 1 ∧ ∃ k r, st = .ref k :: r ∧ (n : Nat) < lo.length ∧ xm_G p l e R s m args below meth c Qw D dA ad b B0 (xm_ml M) (pc + 1, lo.set (n : Nat) (.ref k), r, h, cn, sn)) : xm_G p l e R s m args below meth c Qw D dA ad b B0 (xm_ml M) (pc, lo, st, h, cn, sn) := by
  obtain ⟨rfl, k, r, rfl, hn, hk⟩ := ho
  intro ws H locs ls rst hc hs hI
  obtain ⟨iR, iP, iD, iS, iL, w1, r1, rfl, e1, iT⟩ := hI
  obtain ⟨a, e3, rfl⟩ : ∃ a, (xm_ad ws)[k]? = some a ∧ w1 = .ref a := e1
  exact lv_astore_n F.1.1 F.1.2.1 hd rfl (xm_all_has iL) (by rw [← iL.2.2.1]; exact hn) rfl (fun ls' hl => hk ws H locs ls' _ hc hs ⟨iR, iP, iD, iS, xm_l_set1 iL hn (v := .ref k) ⟨a, e3, rfl⟩ rfl hl, iT⟩)
theorem xs_astore {n : Nat} (F : xm_F p R s m args meth c M d D dA b B0 L xs) (hd : decode (xm_by M) pc = .ok (.astore n, len)) (ho : len = 2 ∧ ∃ k r, st = .ref k :: r ∧ n < lo.length ∧ xm_G p l e R s m args below meth c Qw D dA ad b B0 (xm_ml M) (pc + 2, lo.set n (.ref k), r, h, cn, sn)) : xm_G p l e R s m args below meth c Qw D dA ad b B0 (xm_ml M) (pc, lo, st, h, cn, sn) := by
  obtain ⟨rfl, k, r, rfl, hn, hk⟩ := ho
  intro ws H locs ls rst hc hs hI
  obtain ⟨iR, iP, iD, iS, iL, w1, r1, rfl, e1, iT⟩ := hI
  obtain ⟨a, e3, rfl⟩ : ∃ a, (xm_ad ws)[k]? = some a ∧ w1 = .ref a := e1
  exact lv_astore F.1.1 F.1.2.1 hd (xm_all_has iL) (by rw [← iL.2.2.1]; exact hn) rfl (fun ls' hl => hk ws H locs ls' _ hc hs ⟨iR, iP, iD, iS, xm_l_set1 iL hn (v := .ref k) ⟨a, e3, rfl⟩ rfl hl, iT⟩)
theorem xs_aload_n {n : Fin 4} (F : xm_F p R s m args meth c M d D dA b B0 L xs) (hd : decode (xm_by M) pc = .ok (.aload_n n, len)) (ho : len = 1 ∧ ∃ v, lo[(n : Nat)]? = some v ∧ xm_isr v ∧ xm_G p l e R s m args below meth c Qw D dA ad b B0 (xm_ml M) (pc + 1, lo, v :: st, h, cn, sn)) : xm_G p l e R s m args below meth c Qw D dA ad b B0 (xm_ml M) (pc, lo, st, h, cn, sn) := by
  obtain ⟨rfl, v, hx, hv, hk⟩ := ho
  intro ws H locs ls rst hc hs hI
  obtain ⟨iR, iP, iD, iS, iL, iT⟩ := hI
  rcases hv with ⟨k, rfl⟩ | rfl
  · obtain ⟨w, e1, e2⟩ := iL.2.2.2 _ _ ⟨hx, trivial⟩
    obtain ⟨a, e3, rfl⟩ : ∃ a, (xm_ad ws)[k]? = some a ∧ w = .ref a := e1
    exact lv_aload_n F.1.1 F.1.2.1 hd rfl e2 (hk ws H locs ls _ hc hs ⟨iR, iP, iD, iS, iL, _, _, rfl, ⟨a, e3, rfl⟩, iT⟩)
  · obtain ⟨w, e1, e2⟩ := iL.2.2.2 _ _ ⟨hx, trivial⟩
    have e1 : w = .ref b := e1
    subst e1
    exact lv_aload_n F.1.1 F.1.2.1 hd rfl e2 (hk ws H locs ls _ hc hs ⟨iR, iP, iD, iS, iL, _, _, rfl, rfl, iT⟩)
theorem xs_aload {n : Nat} (F : xm_F p R s m args meth c M d D dA b B0 L xs) (hd : decode (xm_by M) pc = .ok (.aload n, len)) (ho : len = 2 ∧ ∃ v, lo[n]? = some v ∧ xm_isr v ∧ xm_G p l e R s m args below meth c Qw D dA ad b B0 (xm_ml M) (pc + 2, lo, v :: st, h, cn, sn)) : xm_G p l e R s m args below meth c Qw D dA ad b B0 (xm_ml M) (pc, lo, st, h, cn, sn) := by
  obtain ⟨rfl, v, hx, hv, hk⟩ := ho
  intro ws H locs ls rst hc hs hI
  obtain ⟨iR, iP, iD, iS, iL, iT⟩ := hI
  rcases hv with ⟨k, rfl⟩ | rfl
  · obtain ⟨w, e1, e2⟩ := iL.2.2.2 _ _ ⟨hx, trivial⟩
    obtain ⟨a, e3, rfl⟩ : ∃ a, (xm_ad ws)[k]? = some a ∧ w = .ref a := e1
    exact lv_aload F.1.1 F.1.2.1 hd e2 (hk ws H locs ls _ hc hs ⟨iR, iP, iD, iS, iL, _, _, rfl, ⟨a, e3, rfl⟩, iT⟩)
  · obtain ⟨w, e1, e2⟩ := iL.2.2.2 _ _ ⟨hx, trivial⟩
    have e1 : w = .ref b := e1
    subst e1
    exact lv_aload F.1.1 F.1.2.1 hd e2 (hk ws H locs ls _ hc hs ⟨iR, iP, iD, iS, iL, _, _, rfl, rfl, iT⟩)
theorem xs_iinc {n : Nat} {k : Int} (F : xm_F p R s m args meth c M d D dA b B0 L xs) (hd : decode (xm_by M) pc = .ok (.iinc n k, len)) (ho : len = 3 ∧ ∃ x, lo[n]? = some (.int x) ∧ xm_G p l e R s m args below meth c Qw D dA ad b B0 (xm_ml M) (pc + 3, lo.set n (.int (x + Int32.ofInt k)), st, h, cn, sn)) : xm_G p l e R s m args below meth c Qw D dA ad b B0 (xm_ml M) (pc, lo, st, h, cn, sn) := by
  obtain ⟨rfl, x, hx, hk⟩ := ho
  intro ws H locs ls rst hc hs hI
  obtain ⟨iR, iP, iD, iS, iL, iT⟩ := hI
  obtain ⟨w, e1, e2⟩ := iL.2.2.2 _ _ ⟨hx, trivial⟩
  have e1 : w = .int x := e1
  subst e1
  obtain ⟨q, hq⟩ := List.getElem?_of_mem (xm_all_mem.mpr e2)
  have hn : n < lo.length := (List.getElem?_eq_some_iff.mp hx).1
  exact lv_iinc F.1.1 F.1.2.1 hd (xm_all_has iL) hq rfl (by rw [← iL.2.2.1]; exact hn) rfl (fun ls' hl => hk ws H locs ls' _ hc hs ⟨iR, iP, iD, iS, xm_l_set1 iL hn rfl rfl hl, iT⟩)
theorem xs_dup  (F : xm_F p R s m args meth c M d D dA b B0 L xs) (hd : decode (xm_by M) pc = .ok (.dup, len)) (ho : len = 1 ∧ ∃ v r, st = v :: r ∧ v.category = 1 ∧ xm_G p l e R s m args below meth c Qw D dA ad b B0 (xm_ml M) (pc + 1, lo, v :: v :: r, h, cn, sn)) : xm_G p l e R s m args below meth c Qw D dA ad b B0 (xm_ml M) (pc, lo, st, h, cn, sn) := by
  obtain ⟨rfl, v, r, rfl, hv, hk⟩ := ho
  intro ws H locs ls rst hc hs hI
  obtain ⟨iR, iP, iD, iS, iL, w1, r1, rfl, e1, iT⟩ := hI
  exact lv_dup F.1.1 F.1.2.1 hd (by rw [xm_v_cat e1]; exact hv) (hk ws H locs ls _ hc hs ⟨iR, iP, iD, iS, iL, _, _, rfl, e1, _, _, rfl, e1, iT⟩)
theorem xs_pop  (F : xm_F p R s m args meth c M d D dA b B0 L xs) (hd : decode (xm_by M) pc = .ok (.pop, len)) (ho : len = 1 ∧ ∃ v r, st = v :: r ∧ v.category = 1 ∧ xm_G p l e R s m args below meth c Qw D dA ad b B0 (xm_ml M) (pc + 1, lo, r, h, cn, sn)) : xm_G p l e R s m args below meth c Qw D dA ad b B0 (xm_ml M) (pc, lo, st, h, cn, sn) := by
  obtain ⟨rfl, v, r, rfl, hv, hk⟩ := ho
  intro ws H locs ls rst hc hs hI
  obtain ⟨iR, iP, iD, iS, iL, w1, r1, rfl, e1, iT⟩ := hI
  exact lv_pop F.1.1 F.1.2.1 hd (by rw [xm_v_cat e1]; exact hv) (hk ws H locs ls _ hc hs ⟨iR, iP, iD, iS, iL, iT⟩)
theorem xs_arraylength  (F : xm_F p R s m args meth c M d D dA b B0 L xs) (hd : decode (xm_by M) pc = .ok (.arraylength, len)) (ho : len = 1 ∧ ∃ r, st = .retAddr 0 :: r ∧ xm_G p l e R s m args below meth c Qw D dA ad b B0 (xm_ml M) (pc + 1, lo, .int (Int32.ofNat L) :: r, h, cn, sn)) : xm_G p l e R s m args below meth c Qw D dA ad b B0 (xm_ml M) (pc, lo, st, h, cn, sn) := by
  obtain ⟨rfl, r, rfl, hk⟩ := ho
  intro ws H locs ls rst hc hs hI
  obtain ⟨iR, iP, iD, iS, iL, w1, r1, rfl, e1, iT⟩ := hI
  have e1 : w1 = .ref b := e1
  subst e1
  have E := F.2.1
  exact va_slen F.1.1 F.1.2.1 E.2.1 (Nat.lt_of_lt_of_le E.2.2.1 E.2.2.2.1) (fun q => absurd q (Nat.not_le_of_lt E.2.2.1)) iS hd (hk ws H locs ls _ hc hs ⟨iR, iP, iD, iS, iL, _, _, rfl, rfl, iT⟩)
theorem xs_iaload  (F : xm_F p R s m args meth c M d D dA b B0 L xs) (hd : decode (xm_by M) pc = .ok (.iaload, len)) (ho : len = 1 ∧ ((∃ i r, st = .int i :: .retAddr 0 :: r ∧ vp_in i L ∧ xm_G p l e R s m args below meth c Qw D dA ad b B0 (xm_ml M) (pc + 1, lo, .int (xs i.toNatClampNeg) :: r, h, cn, sn)) ∨ ∃ i a r n f, st = .int i :: .ref a :: r ∧ h[a]? = some (.inl (.int, n, .inl f)) ∧ vp_in i n ∧ xm_G p l e R s m args below meth c Qw D dA ad b B0 (xm_ml M) (pc + 1, lo, .int (f i.toNatClampNeg) :: r, h, cn, sn))) : xm_G p l e R s m args below meth c Qw D dA ad b B0 (xm_ml M) (pc, lo, st, h, cn, sn) := by
  obtain ⟨rfl, ho⟩ := ho
  have E := F.2.1
  rcases ho with ⟨i, r, rfl, hin, hk⟩ | ⟨i, a, r, n, f, rfl, ha, hin, hk⟩
  · intro ws H locs ls rst hc hs hI
    obtain ⟨iR, iP, iD, iS, iL, w1, r1, rfl, e1, w2, r2, rfl, e2, iT⟩ := hI
    have e1 : w1 = .int i := e1
    have e2 : w2 = .ref b := e2
    subst e1; subst e2
    exact va_sld F.1.1 F.1.2.1 E.2.1 (Nat.lt_of_lt_of_le E.2.2.1 E.2.2.2.1) (fun q => absurd q (Nat.not_le_of_lt E.2.2.1)) iS hin hd (hk ws H locs ls _ hc hs ⟨iR, iP, iD, iS, iL, _, _, rfl, rfl, iT⟩)
  · intro ws H locs ls rst hc hs hI
    obtain ⟨iR, iP, iD, iS, iL, w1, r1, rfl, e1, w2, r2, rfl, e2, iT⟩ := hI
    have e1 : w1 = .int i := e1
    subst e1
    obtain ⟨q, e3, rfl⟩ : ∃ q, (xm_ad ws)[a]? = some q ∧ w2 = .ref q := e2
    obtain ⟨q2, ec, f1, f2, f3⟩ := xm_R_get iR ha
    have f3 : ec = .inl (dA .int, n, .inl f) := f3
    subst f3
    obtain rfl : q = q2 := Option.some.inj (e3.symm.trans f2)
    exact va_iald F.1.1 F.1.2.1 E.1 iP a 0 f1 rfl hin hd (hk ws H locs ls _ hc hs ⟨iR, iP, iD, iS, iL, _, _, rfl, rfl, iT⟩)
theorem xs_laload  (F : xm_F p R s m args meth c M d D dA b B0 L xs) (hd : decode (xm_by M) pc = .ok (.laload, len)) (ho : len = 1 ∧ ∃ i a r n f, st = .int i :: .ref a :: r ∧ h[a]? = some (.inl (.long, n, .inr (.inl f))) ∧ vp_in i n ∧ xm_G p l e R s m args below meth c Qw D dA ad b B0 (xm_ml M) (pc + 1, lo, .long (f i.toNatClampNeg) :: r, h, cn, sn)) : xm_G p l e R s m args below meth c Qw D dA ad b B0 (xm_ml M) (pc, lo, st, h, cn, sn) := by
  obtain ⟨rfl, i, a, r, n, f, rfl, ha, hin, hk⟩ := ho
  intro ws H locs ls rst hc hs hI
  obtain ⟨iR, iP, iD, iS, iL, w1, r1, rfl, e1, w2, r2, rfl, e2, iT⟩ := hI
  have e1 : w1 = .int i := e1
  subst e1
  obtain ⟨q, e3, rfl⟩ : ∃ q, (xm_ad ws)[a]? = some q ∧ w2 = .ref q := e2
  obtain ⟨q2, ec, f1, f2, f3⟩ := xm_R_get iR ha
  have f3 : ec = .inl (dA .long, n, .inr (.inl f)) := f3
  subst f3
  obtain rfl : q = q2 := Option.some.inj (e3.symm.trans f2)
  exact va_lald F.1.1 F.1.2.1 F.2.1.1 iP a 1 f1 rfl hin hd (hk ws H locs ls _ hc hs ⟨iR, iP, iD, iS, iL, _, _, rfl, rfl, iT⟩)
theorem xs_aaload  (F : xm_F p R s m args meth c M d D dA b B0 L xs) (hd : decode (xm_by M) pc = .ok (.aaload, len)) (ho : len = 1 ∧ ∃ i a r ty n f q, st = .int i :: .ref a :: r ∧ h[a]? = some (.inl (ty, n, .inr (.inr (.inr (.inr f))))) ∧ (ty = .array .int ∨ ty = .object tb_rc) ∧ vp_in i n ∧ f i.toNatClampNeg = some q ∧ xm_G p l e R s m args below meth c Qw D dA ad b B0 (xm_ml M) (pc + 1, lo, .ref q :: r, h, cn, sn)) : xm_G p l e R s m args below meth c Qw D dA ad b B0 (xm_ml M) (pc, lo, st, h, cn, sn) := by
  obtain ⟨rfl, i, a, r, ty, n, f, q0, rfl, ha, hty, hin, hq, hk⟩ := ho
  intro ws H locs ls rst hc hs hI
  obtain ⟨iR, iP, iD, iS, iL, w1, r1, rfl, e1, w2, r2, rfl, e2, iT⟩ := hI
  have e1 : w1 = .int i := e1
  subst e1
  obtain ⟨q, e3, rfl⟩ : ∃ q, (xm_ad ws)[a]? = some q ∧ w2 = .ref q := e2
  obtain ⟨q2, ec, f1, f2, f3⟩ := xm_R_get iR ha
  obtain ⟨g, rfl, hg⟩ : ∃ g, ec = .inl (dA ty, n, .inr (.inr (.inr (.inr g)))) ∧ ∀ j, j < n → xm_o (xm_ad ws) (f j) (g j) := f3
  obtain rfl : q = q2 := Option.some.inj (e3.symm.trans f2)
  have hlt : i.toNatClampNeg < n := Nat.not_le.mp fun q => hin (Or.inr q)
  have hgi := hg _ hlt
  rw [hq] at hgi
  obtain ⟨z, hz1, hz2⟩ : ∃ z, (xm_ad ws)[q0]? = some z ∧ g i.toNatClampNeg = some z := hgi
  have hAr : ArrOfT s (dA ty) ty ∧ ty.isReference = true := by
    rcases hty with rfl | rfl
    · exact ⟨(F.2.1.1.2 2 (dA (.array .int), .array .int) rfl).1, rfl⟩
    · exact ⟨(F.2.1.1.2 3 (dA (.object tb_rc), .object tb_rc) rfl).1, rfl⟩
  exact W.aald (v := .ref z) (ty := ty) F.1.1 F.1.2.1 (iP a _ f1) (hAr.1 n (fun j => va_rf (g j))) hAr.2 (fun q => by cases q) (by show ¬ (i < 0 ∨ (arrV _ _ _).slots.size ≤ _); rw [arrV_size]; exact hin) (by show (arrV _ _ _).slots[_]? = _; rw [arrV_read _ _ hlt, hz2]; rfl) rfl rfl hd (hk ws H locs ls _ hc hs ⟨iR, iP, iD, iS, iL, _, _, rfl, ⟨z, hz1, rfl⟩, iT⟩)
theorem xs_iastore  (F : xm_F p R s m args meth c M d D dA b B0 L xs) (hd : decode (xm_by M) pc = .ok (.iastore, len)) (ho : len = 1 ∧ ∃ x i a r n f, st = .int x :: .int i :: .ref a :: r ∧ h[a]? = some (.inl (.int, n, .inl f)) ∧ vp_in i n ∧ xm_G p l e R s m args below meth c Qw D dA ad b B0 (xm_ml M) (pc + 1, lo, r, h.set a (.inl (.int, n, .inl (upd f i.toNatClampNeg x))), cn, sn)) : xm_G p l e R s m args below meth c Qw D dA ad b B0 (xm_ml M) (pc, lo, st, h, cn, sn) := by
  obtain ⟨rfl, x, i, a, r, n, f, rfl, ha, hin, hk⟩ := ho
  intro ws H locs ls rst hc hs hI
  obtain ⟨iR, iP, iD, iS, iL, w0, r0, rfl, e0, w1, r1, rfl, e1, w2, r2, rfl, e2, iT⟩ := hI
  have e0 : w0 = .int x := e0
  have e1 : w1 = .int i := e1
  subst e0; subst e1
  obtain ⟨q, e3, rfl⟩ : ∃ q, (xm_ad ws)[a]? = some q ∧ w2 = .ref q := e2
  obtain ⟨q2, ec, f1, f2, f3⟩ := xm_R_get iR ha
  have f3 : ec = .inl (dA .int, n, .inl f) := f3
  subst f3
  obtain rfl : q = q2 := Option.some.inj (e3.symm.trans f2)
  have had := xm_ad_set (e := .inl (dA .int, n, .inl (upd f i.toNatClampNeg x))) f1
  exact va_iast F.1.1 F.1.2.1 F.2.1.1 iP iD iS a 0 f1 rfl hin hd (fun H1 locs1 hP1 hD1 hS1 => hk _ H1 locs1 ls _ hc hs ⟨xm_R_set iR f1 rfl, hP1, hD1, hS1, by show xm_l (xm_ad _) b _ lo ls; rw [had]; exact iL, by show xm_st (xm_ad _) b r _; rw [had]; exact iT⟩)
theorem xs_lastore  (F : xm_F p R s m args meth c M d D dA b B0 L xs) (hd : decode (xm_by M) pc = .ok (.lastore, len)) (ho : len = 1 ∧ ∃ x i a r n f, st = .long x :: .int i :: .ref a :: r ∧ h[a]? = some (.inl (.long, n, .inr (.inl f))) ∧ vp_in i n ∧ xm_G p l e R s m args below meth c Qw D dA ad b B0 (xm_ml M) (pc + 1, lo, r, h.set a (.inl (.long, n, .inr (.inl (vp_updL f i.toNatClampNeg x)))), cn, sn)) : xm_G p l e R s m args below meth c Qw D dA ad b B0 (xm_ml M) (pc, lo, st, h, cn, sn) := by
  obtain ⟨rfl, x, i, a, r, n, f, rfl, ha, hin, hk⟩ := ho
  intro ws H locs ls rst hc hs hI
  obtain ⟨iR, iP, iD, iS, iL, w0, r0, rfl, e0, w1, r1, rfl, e1, w2, r2, rfl, e2, iT⟩ := hI
  have e0 : w0 = .long x := e0
  have e1 : w1 = .int i := e1
  subst e0; subst e1
  obtain ⟨q, e3, rfl⟩ : ∃ q, (xm_ad ws)[a]? = some q ∧ w2 = .ref q := e2
  obtain ⟨q2, ec, f1, f2, f3⟩ := xm_R_get iR ha
  have f3 : ec = .inl (dA .long, n, .inr (.inl f)) := f3
  subst f3
  obtain rfl : q = q2 := Option.some.inj (e3.symm.trans f2)
  have had := xm_ad_set (e := .inl (dA .long, n, .inr (.inl (vp_updL f i.toNatClampNeg x)))) f1
  exact va_last F.1.1 F.1.2.1 F.2.1.1 iP iD iS a 1 f1 rfl hin hd (fun H1 locs1 hP1 hD1 hS1 => hk _ H1 locs1 ls _ hc hs ⟨xm_R_set iR f1 rfl, hP1, hD1, hS1, by show xm_l (xm_ad _) b _ lo ls; rw [had]; exact iL, by show xm_st (xm_ad _) b r _; rw [had]; exact iT⟩)
theorem xs_aastore  (F : xm_F p R s m args meth c M d D dA b B0 L xs) (hd : decode (xm_by M) pc = .ok (.aastore, len)) (ho : len = 1 ∧ ∃ v i a r ci fs n f, st = .ref v :: .int i :: .ref a :: r ∧ h[a]? = some (.inl (.object tb_rc, n, .inr (.inr (.inr (.inr f))))) ∧ (∃ q, vwCl[ci]? = some q ∧ q.1 = tb_rc) ∧ h[v]? = some (.inr (ci, fs)) ∧ vp_in i n ∧ xm_G p l e R s m args below meth c Qw D dA ad b B0 (xm_ml M) (pc + 1, lo, r, h.set a (.inl (.object tb_rc, n, .inr (.inr (.inr (.inr (va_up f i.toNatClampNeg (some v))))))), cn, sn)) : xm_G p l e R s m args below meth c Qw D dA ad b B0 (xm_ml M) (pc, lo, st, h, cn, sn) := by
  obtain ⟨rfl, v, i, a, r, ci, fs, n, f, rfl, ha, ⟨cq, hcq, hcn⟩, hv, hin, hk⟩ := ho
  intro ws H locs ls rst hc hs hI
  obtain ⟨iR, iP, iD, iS, iL, w0, r0, rfl, e0, w1, r1, rfl, e1, w2, r2, rfl, e2, iT⟩ := hI
  have e1 : w1 = .int i := e1
  subst e1
  obtain ⟨q, e3, rfl⟩ : ∃ q, (xm_ad ws)[a]? = some q ∧ w2 = .ref q := e2
  obtain ⟨qv, e4, rfl⟩ : ∃ q, (xm_ad ws)[v]? = some q ∧ w0 = .ref q := e0
  obtain ⟨q2, ec, f1, f2, f3⟩ := xm_R_get iR ha
  obtain ⟨g, rfl, hg⟩ : ∃ g, ec = .inl (dA (.object tb_rc), n, .inr (.inr (.inr (.inr g)))) ∧ ∀ j, j < n → xm_o (xm_ad ws) (f j) (g j) := f3
  obtain rfl : q = q2 := Option.some.inj (e3.symm.trans f2)
  obtain ⟨q3, ev, f4, f5, f6⟩ := xm_R_get iR hv
  obtain ⟨gs, rfl, hgs⟩ : ∃ gs, ev = .inr (ci, gs) ∧ xm_st (xm_ad ws) b fs gs := f6
  obtain rfl : qv = q3 := Option.some.inj (e4.symm.trans f5)
  have had := xm_ad_set (e := .inl (dA (.object tb_rc), n, .inr (.inr (.inr (.inr (va_up g i.toNatClampNeg (some qv))))))) f1
  have hcc : xm_c (xm_ad ws) b dA (.inl (.object tb_rc, n, .inr (.inr (.inr (.inr (va_up f i.toNatClampNeg (some v))))))) (.inl (dA (.object tb_rc), n, .inr (.inr (.inr (.inr (va_up g i.toNatClampNeg (some qv))))))) := by
    refine ⟨_, rfl, fun j hj => ?_⟩
    unfold va_up
    split
    · exact ⟨qv, e4, rfl⟩
    · exact hg j hj
  exact va_astq F.1.1 F.1.2.1 F.2.1.1 iP iD iS a 3 v ci f1 (by rw [hcn]; rfl) f4 hcq hin hd (fun H1 locs1 hP1 hD1 hS1 => hk _ H1 locs1 ls _ hc hs ⟨xm_R_set iR f1 hcc, hP1, hD1, hS1, by show xm_l (xm_ad _) b _ lo ls; rw [had]; exact iL, by show xm_st (xm_ad _) b r _; rw [had]; exact iT⟩)
theorem xs_getfield {k : Nat} (F : xm_F p R s m args meth c M d D dA b B0 L xs) (hd : decode (xm_by M) pc = .ok (.getfield k, len)) (ho : len = 3 ∧ ∃ a r ci j fs v C T N ty, xm_cl ci C T N ty ∧ j < N ∧ xm_fk (xm_y M).cls k (T j) ∧ st = .ref a :: r ∧ h[a]? = some (.inr (ci, fs)) ∧ fs[j]? = some v ∧ xm_G p l e R s m args below meth c Qw D dA ad b B0 (xm_ml M) (pc + 3, lo, v :: r, h, cn, sn)) : xm_G p l e R s m args below meth c Qw D dA ad b B0 (xm_ml M) (pc, lo, st, h, cn, sn) := by
  obtain ⟨rfl, a, r, ci, j, fs, v, C, T, N, ty, hcl, hj, hfk, rfl, ha, hv, hk⟩ := ho
  intro ws H locs ls rst hc hs hI
  obtain ⟨iR, iP, iD, iS, iL, w1, r1, rfl, e1, iT⟩ := hI
  obtain ⟨q, e3, rfl⟩ : ∃ q, (xm_ad ws)[a]? = some q ∧ w1 = .ref q := e1
  obtain ⟨q2, ec, f1, f2, f3⟩ := xm_R_get iR ha
  obtain ⟨gs, rfl, hgs⟩ : ∃ gs, ec = .inr (ci, gs) ∧ xm_st (xm_ad ws) b fs gs := f3
  obtain rfl : q = q2 := Option.some.inj (e3.symm.trans f2)
  obtain ⟨u, hu, hvu⟩ := xm_st_get hgs hv
  have hw := hk ws H locs ls _ hc hs ⟨iR, iP, iD, iS, iL, _, _, rfl, hvu, iT⟩
  rcases hfk with hf | ⟨host, hf⟩
  · exact va_get F.1.1 F.1.2.1 F.1.2.2.2.2 hcl.2.1 F.1.2.2.2.1 F.2.1.1 iP a f1 hcl.1 j hj (F.1.2.2.2.2 _ hf) (fun _ h9 => h9) hu hd hw
  · exact va_getN F.1.1 F.1.2.1 F.1.2.2.2.2 hcl.2.1 F.1.2.2.2.1 F.2.1.1 iP a f1 hcl.1 j hj (va_Nw.use rfl (F.2.1.2.2.2.2.1 _ hf)) (fun _ h9 => h9) hu hd hw
theorem xs_putfield {k : Nat} (F : xm_F p R s m args meth c M d D dA b B0 L xs) (hd : decode (xm_by M) pc = .ok (.putfield k, len)) (ho : len = 3 ∧ ∃ v a r ci j fs C T N ty, xm_cl ci C T N ty ∧ j < N ∧ xm_fk (xm_y M).cls k (T j) ∧ ((T j).2.2.2 = false ∨ ((T j).2.2.2 = true ∧ (T j).1 = (xm_y M).cls ∧ (xm_y M).name = "<init>" ∧ Cond.fieldLink (xm_y M).cls k (T j).1 (T j).2.1 (T j).2.2.1 ∈ tb_all)) ∧ st = v :: .ref a :: r ∧ h[a]? = some (.inr (ci, fs)) ∧ j < fs.length ∧ narrow (ty j) v = v ∧ fits (ty j) v = true ∧ xm_G p l e R s m args below meth c Qw D dA ad b B0 (xm_ml M) (pc + 3, lo, r, h.set a (.inr (ci, fs.set j v)), cn, sn)) : xm_G p l e R s m args below meth c Qw D dA ad b B0 (xm_ml M) (pc, lo, st, h, cn, sn) := by
  obtain ⟨rfl, v, a, r, ci, j, fs, C, T, N, ty, hcl, hj, hfk, hfin, rfl, ha, hjl, hn, hfit, hk⟩ := ho
  intro ws H locs ls rst hc hs hI
  obtain ⟨iR, iP, iD, iS, iL, w0, r0, rfl, e0, w1, r1, rfl, e1, iT⟩ := hI
  obtain ⟨q, e3, rfl⟩ : ∃ q, (xm_ad ws)[a]? = some q ∧ w1 = .ref q := e1
  obtain ⟨q2, ec, f1, f2, f3⟩ := xm_R_get iR ha
  obtain ⟨gs, rfl, hgs⟩ : ∃ gs, ec = .inr (ci, gs) ∧ xm_st (xm_ad ws) b fs gs := f3
  obtain rfl : q = q2 := Option.some.inj (e3.symm.trans f2)
  have had := xm_ad_set (e := .inr (ci, gs.set j w0)) f1
  have hgl : j < gs.length := by rw [xm_st_len hgs]; exact hjl
  have hcc : xm_c (xm_ad ws) b dA (.inr (ci, fs.set j v)) (.inr (ci, gs.set j w0)) := ⟨_, rfl, xm_st_set hgs e0⟩
  have hw : ∀ (H1 : Heap) (locs1 : List Loc), va_P D vwCl (ws.set a (q, .inr (ci, gs.set j w0))) H1 → va_D (xm_A B0) (ws.set a (q, .inr (ci, gs.set j w0))) → va_S (xm_A B0) s.heap H1 locs1 → W p l e R s m args below meth c H1 locs1 cn sn Qw (F0 m (pc + 3) ls r1) := fun H1 locs1 hP1 hD1 hS1 => hk _ H1 locs1 ls _ hc hs ⟨xm_R_set iR f1 hcc, hP1, hD1, hS1, by show xm_l (xm_ad _) b _ lo ls; rw [had]; exact iL, by show xm_st (xm_ad _) b r _; rw [had]; exact iT⟩
  have hn2 := xm_v_narrow e0 hn
  have hf2 := xm_v_fits e0 hfit
  rcases hfin with hfin | ⟨hfin, hown, hnm, hlk⟩
  · rcases hfk with hf | ⟨host, hf⟩
    · exact va_put F.1.1 F.1.2.1 F.1.2.2.2.2 hcl.2.1 ty hcl.2.2.1 hcl.2.2.2 F.1.2.2.2.1 F.2.1.1 iP iD iS a f1 hcl.1 j hj (F.1.2.2.2.2 _ hf) (fun _ h9 => h9) hfin (hcl.2.2.1 j hj) hn2 hf2 hgl hd hw
    · exact va_putN F.1.1 F.1.2.1 F.1.2.2.2.2 hcl.2.1 ty hcl.2.2.1 hcl.2.2.2 F.1.2.2.2.1 F.2.1.1 iP iD iS a f1 hcl.1 j hj (va_Nw.use rfl (F.2.1.2.2.2.2.1 _ hf)) (fun _ h9 => h9) hfin (hcl.2.2.1 j hj) hn2 hf2 hgl hd hw
  · exact va_putF F.1.1 F.1.2.1 F.1.2.2.2.2 hcl.2.1 ty hcl.2.2.1 hcl.2.2.2 F.1.2.2.2.1 F.2.1.1 iP iD iS a f1 hcl.1 j hj (F.1.2.2.2.2 _ hlk) (fun _ h9 => h9) hfin (F.2.2.2.2.trans hnm) hown (hcl.2.2.1 j hj) hn2 hf2 hgl hd hw
theorem xs_newarray_int  (F : xm_F p R s m args meth c M d D dA b B0 L xs) (hd : decode (xm_by M) pc = .ok (.newarray .int, len)) (ho : len = 2 ∧ ∃ n r, st = .int n :: r ∧ ¬ n < 0 ∧ n.toNatClampNeg ≤ 65536 ∧ cn + 1 ≤ xm_mc M ∧ sn + n.toNatClampNeg ≤ xm_ms M ∧ Cond.arrayClass .int ∈ tb_all ∧ xm_G p l e R s m args below meth c Qw D dA ad b B0 (xm_ml M) (pc + 2, lo, .ref h.length :: r, h ++ [.inl (.int, n.toNatClampNeg, .inl (fun _ => 0))], cn + 1, sn + n.toNatClampNeg)) : xm_G p l e R s m args below meth c Qw D dA ad b B0 (xm_ml M) (pc, lo, st, h, cn, sn) := by
  obtain ⟨rfl, n, r, rfl, hn, hb, hcl, hsl, hw, hk⟩ := ho
  intro ws H locs ls rst hc hs hI
  obtain ⟨iR, iP, iD, iS, iL, w1, r1, rfl, e1, iT⟩ := hI
  have e1 : w1 = .int n := e1
  subst e1
  have E := F.2.1
  refine va_newa (atype := .int) (ty := .int) (N' := n.toNatClampNeg) (a0 := (n.toNatClampNeg, .inl (fun _ => 0))) F.1.1 F.1.2.1 (F.1.2.2.2.2 _ hw) rfl E.1 iP iD iS (fun q hq => Nat.le_trans E.2.2.2.1 hq) (fun cA => rfl) hn rfl (by show _ * _ ≤ _; simp only [componentBytes]; omega) (by rw [F.2.2.1.1]; exact hcl) (by rw [F.2.2.1.2]; exact hsl) hd (fun q cA H1 hK1 hP1 hD1 hS1 => ?_)
  have hA : cA = dA .int := by
    have h1 := (hK1.2 4 (cA, .int) rfl).2
    have h2 := (E.1.2 0 (dA .int, .int) rfl).2
    exact Option.some.inj (h1.symm.trans h2)
  subst hA
  exact hk _ H1 locs ls _ (by show _ ≤ R.cells; rw [F.2.2.1.1]; exact hcl) (by show _ ≤ R.slots; rw [F.2.2.1.2]; exact hsl) ⟨xm_R_push iR (rfl), hP1, hD1, hS1, by show xm_l (xm_ad _) b _ lo ls; rw [xm_ad_push]; exact xm_l_mono _ iL, _, _, rfl, ⟨q, by show (xm_ad _)[h.length]? = some q; rw [xm_ad_push, ← iR.1]; exact xm_ad_new ws q, rfl⟩, by show xm_st (xm_ad _) b r _; rw [xm_ad_push]; exact xm_st_mono _ iT⟩
theorem xs_newarray_long  (F : xm_F p R s m args meth c M d D dA b B0 L xs) (hd : decode (xm_by M) pc = .ok (.newarray .long, len)) (ho : len = 2 ∧ ∃ n r, st = .int n :: r ∧ ¬ n < 0 ∧ n.toNatClampNeg ≤ 65536 ∧ cn + 1 ≤ xm_mc M ∧ sn + n.toNatClampNeg ≤ xm_ms M ∧ Cond.arrayClass .long ∈ tb_all ∧ xm_G p l e R s m args below meth c Qw D dA ad b B0 (xm_ml M) (pc + 2, lo, .ref h.length :: r, h ++ [.inl (.long, n.toNatClampNeg, .inr (.inl (fun _ => 0)))], cn + 1, sn + n.toNatClampNeg)) : xm_G p l e R s m args below meth c Qw D dA ad b B0 (xm_ml M) (pc, lo, st, h, cn, sn) := by
  obtain ⟨rfl, n, r, rfl, hn, hb, hcl, hsl, hw, hk⟩ := ho
  intro ws H locs ls rst hc hs hI
  obtain ⟨iR, iP, iD, iS, iL, w1, r1, rfl, e1, iT⟩ := hI
  have e1 : w1 = .int n := e1
  subst e1
  have E := F.2.1
  refine va_newa (atype := .long) (ty := .long) (N' := n.toNatClampNeg) (a0 := (n.toNatClampNeg, .inr (.inl (fun _ => 0)))) F.1.1 F.1.2.1 (F.1.2.2.2.2 _ hw) rfl E.1 iP iD iS (fun q hq => Nat.le_trans E.2.2.2.1 hq) (fun cA => rfl) hn rfl (by show _ * _ ≤ _; simp only [componentBytes]; omega) (by rw [F.2.2.1.1]; exact hcl) (by rw [F.2.2.1.2]; exact hsl) hd (fun q cA H1 hK1 hP1 hD1 hS1 => ?_)
  have hA : cA = dA .long := by
    have h1 := (hK1.2 4 (cA, .long) rfl).2
    have h2 := (E.1.2 1 (dA .long, .long) rfl).2
    exact Option.some.inj (h1.symm.trans h2)
  subst hA
  exact hk _ H1 locs ls _ (by show _ ≤ R.cells; rw [F.2.2.1.1]; exact hcl) (by show _ ≤ R.slots; rw [F.2.2.1.2]; exact hsl) ⟨xm_R_push iR (rfl), hP1, hD1, hS1, by show xm_l (xm_ad _) b _ lo ls; rw [xm_ad_push]; exact xm_l_mono _ iL, _, _, rfl, ⟨q, by show (xm_ad _)[h.length]? = some q; rw [xm_ad_push, ← iR.1]; exact xm_ad_new ws q, rfl⟩, by show xm_st (xm_ad _) b r _; rw [xm_ad_push]; exact xm_st_mono _ iT⟩
theorem xs_anewarray {k : Nat} (F : xm_F p R s m args meth c M d D dA b B0 L xs) (hd : decode (xm_by M) pc = .ok (.anewarray k, len)) (ho : len = 3 ∧ ∃ n r, Cond.classLink (xm_y M).cls k tb_rc ∈ tb_all ∧ st = .int n :: r ∧ ¬ n < 0 ∧ n.toNatClampNeg ≤ 65536 ∧ cn + 1 ≤ xm_mc M ∧ sn + n.toNatClampNeg ≤ xm_ms M ∧ xm_G p l e R s m args below meth c Qw D dA ad b B0 (xm_ml M) (pc + 3, lo, .ref h.length :: r, h ++ [.inl (.object tb_rc, n.toNatClampNeg, .inr (.inr (.inr (.inr (fun _ => none)))))], cn + 1, sn + n.toNatClampNeg)) : xm_G p l e R s m args below meth c Qw D dA ad b B0 (xm_ml M) (pc, lo, st, h, cn, sn) := by
  obtain ⟨rfl, n, r, hw, rfl, hn, hb, hcl, hsl, hk⟩ := ho
  intro ws H locs ls rst hc hs hI
  obtain ⟨iR, iP, iD, iS, iL, w1, r1, rfl, e1, iT⟩ := hI
  have e1 : w1 = .int n := e1
  subst e1
  have E := F.2.1
  refine va_newq (C := tb_rc) (N' := n.toNatClampNeg) F.1.1 F.1.2.1 F.1.2.2.2.1 (F.1.2.2.2.2 _ hw) E.2.2.2.2.2.1 E.1 iP iD iS (fun q hq => Nat.le_trans E.2.2.2.1 hq) hn rfl (by omega) (by rw [F.2.2.1.1]; exact hcl) (by rw [F.2.2.1.2]; exact hsl) hd (fun q cA H1 hK1 hP1 hD1 hS1 => ?_)
  have hA : cA = dA (.object tb_rc) := by
    obtain ⟨_, _, -, -, -, h1⟩ := (hK1.2 4 (cA, .object tb_rc) rfl).2
    obtain ⟨_, _, -, -, -, h2⟩ := (E.1.2 3 (dA (.object tb_rc), .object tb_rc) rfl).2
    exact Option.some.inj (h1.symm.trans h2)
  subst hA
  exact hk _ H1 locs ls _ (by show _ ≤ R.cells; rw [F.2.2.1.1]; exact hcl) (by show _ ≤ R.slots; rw [F.2.2.1.2]; exact hsl) ⟨xm_R_push iR (⟨_, rfl, fun _ _ => rfl⟩), hP1, hD1, hS1, by show xm_l (xm_ad _) b _ lo ls; rw [xm_ad_push]; exact xm_l_mono _ iL, _, _, rfl, ⟨q, by show (xm_ad _)[h.length]? = some q; rw [xm_ad_push, ← iR.1]; exact xm_ad_new ws q, rfl⟩, by show xm_st (xm_ad _) b r _; rw [xm_ad_push]; exact xm_st_mono _ iT⟩
theorem xs_new {k : Nat} (F : xm_F p R s m args meth c M d D dA b B0 L xs) (hd : decode (xm_by M) pc = .ok (.new k, len)) (ho : len = 3 ∧ ∃ ci C T N ty fs, xm_cl ci C T N ty ∧ Cond.classLink (xm_y M).cls k C ∈ tb_all ∧ Cond.instantiable C N ∈ tb_all ∧ Cond.initialized C ∈ tb_all ∧ (∀ j, j < N → defaultValue (ty j) = vp_V fs j) ∧ fs.all xm_plain = true ∧ cn + 1 ≤ xm_mc M ∧ sn + N ≤ xm_ms M ∧ xm_G p l e R s m args below meth c Qw D dA ad b B0 (xm_ml M) (pc + 3, lo, .ref h.length :: st, h ++ [.inr (ci, fs)], cn + 1, sn + N)) : xm_G p l e R s m args below meth c Qw D dA ad b B0 (xm_ml M) (pc, lo, st, h, cn, sn) := by
  obtain ⟨rfl, ci, C, T, N, ty, fs, hcl, hw1, hw2, hw3, hdf, hpl, hcl1, hsl, hk⟩ := ho
  intro ws H locs ls rst hc hs hI
  obtain ⟨iR, iP, iD, iS, iL, iT⟩ := hI
  have E := F.2.1
  refine va_new (ci := ci) (fs := fs) F.1.1 F.1.2.1 F.1.2.2.2.2 hcl.2.1 ty hcl.2.2.1 F.1.2.2.2.1 (F.1.2.2.2.2 _ hw1) (F.1.2.2.2.2 _ hw2) (F.1.2.2.2.2 _ hw3) E.1 iP iD iS (fun q hq => Nat.le_trans E.2.2.2.1 hq) hcl.1 hdf (by rw [F.2.2.1.1]; exact hcl1) (by rw [F.2.2.1.2]; exact hsl) hd (fun q H1 hP1 hD1 hS1 => ?_)
  exact hk _ H1 locs ls _ (by show _ ≤ R.cells; rw [F.2.2.1.1]; exact hcl1) (by show _ ≤ R.slots; rw [F.2.2.1.2]; exact hsl) ⟨xm_R_push iR (⟨_, rfl, xm_st_plain hpl⟩), hP1, hD1, hS1, by show xm_l (xm_ad _) b _ lo ls; rw [xm_ad_push]; exact xm_l_mono _ iL, _, _, rfl, ⟨q, by show (xm_ad _)[h.length]? = some q; rw [xm_ad_push, ← iR.1]; exact xm_ad_new ws q, rfl⟩, by show xm_st (xm_ad _) b st _; rw [xm_ad_push]; exact xm_st_mono _ iT⟩
theorem xs_objInit {k : Nat} (F : xm_F p R s m args meth c M d D dA b B0 L xs) (hd : decode (xm_by M) pc = .ok (.invokespecial k, len)) (ho : len = 3 ∧ xm_oi (xm_y M).cls k ∧ ∃ a r, st = .ref a :: r ∧ xm_sum r ≤ 8 ∧ xm_G p l e R s m args below meth c Qw D dA ad b B0 (xm_ml M) (pc + 3, lo, r, h, cn, sn)) : xm_G p l e R s m args below meth c Qw D dA ad b B0 (xm_ml M) (pc, lo, st, h, cn, sn) := by
  obtain ⟨rfl, ⟨hw1, hw2, hw3⟩, a, r, rfl, hr, hk⟩ := ho
  intro ws H locs ls rst hc hs hI
  obtain ⟨iR, iP, iD, iS, iL, w1, r1, rfl, e1, iT⟩ := hI
  obtain ⟨q, e3, rfl⟩ : ∃ q, (xm_ad ws)[a]? = some q ∧ w1 = .ref q := e1
  have hsum : (r1.map fun v => v.category).sum ≤ 8 := by
    have := xm_st_sum iT
    unfold xm_sum at this hr
    omega
  have h0 := lv_room (m := m) (pc := pc) (ls := ls) (rest := .ref q :: r1) hsum
  refine W.objInit F.1.1 F.1.2.1 F.1.2.2.2.1 (F.1.2.2.2.2 _ hw1) (F.1.2.2.2.2 _ hw2) (F.1.2.2.2.2 _ hw3) rfl (by rw [F.1.2.2.1]; exact iL.1) rfl hd (by have := F.2.2.2.1.1; omega) (Nat.le_trans (Nat.add_le_add_right h0 12) (by have := F.2.2.2.1.2; omega)) ?_
  exact hk ws H locs ls _ hc hs ⟨iR, iP, iD, iS, iL, iT⟩
theorem xs_mmax {k : Nat} (F : xm_F p R s m args meth c M d D dA b B0 L xs) (hd : decode (xm_by M) pc = .ok (.invokestatic k, len)) (ho : len = 3 ∧ xm_mx (xm_y M).cls k ∧ ∃ x y r, st = .int y :: .int x :: r ∧ xm_sum r ≤ 8 ∧ xm_G p l e R s m args below meth c Qw D dA ad b B0 (xm_ml M) (pc + 3, lo, .int (if x < y then y else x) :: r, h, cn, sn)) : xm_G p l e R s m args below meth c Qw D dA ad b B0 (xm_ml M) (pc, lo, st, h, cn, sn) := by
  obtain ⟨rfl, ⟨hw1, hw2, hw3, hw4⟩, x, y, r, rfl, hr, hk⟩ := ho
  intro ws H locs ls rst hc hs hI
  obtain ⟨iR, iP, iD, iS, iL, w1, r1, rfl, e1, w2, r2, rfl, e2, iT⟩ := hI
  have e1 : w1 = .int y := e1
  have e2 : w2 = .int x := e2
  subst e1; subst e2
  have hsum : (r2.map fun v => v.category).sum ≤ 8 := by
    have := xm_st_sum iT
    unfold xm_sum at this hr
    omega
  exact va_mmax F.1.1 F.1.2.1 (by rw [F.1.2.2.1]; exact iL.1.symm) F.1.2.2.2.1 (F.1.2.2.2.2 _ hw1) (F.1.2.2.2.2 _ hw2) (F.1.2.2.2.2 _ hw3) (F.1.2.2.2.2 _ hw4) (by have := F.2.2.2.1.1; omega) (by have := F.2.2.2.1.2; omega) hc hs hd (hk ws H locs ls _ hc hs ⟨iR, iP, iD, iS, iL, _, _, rfl, rfl, iT⟩)
/-- what a call's run needs beside its words; what comes behind it -/
theorem xs_inv (F : xm_F p R s m args meth c M d D dA b B0 L xs) {Mj : xm_M} {as : List Value} {call : xm_K} (hM : ∀ (M' : xm_M) (as' : List Value) (h' : xm_H) (Q' : xm_Q), call M' as' h' Q' → xm_ok M' → xm_Met l d D dA b B0 L xs M' as' h' Q') (ok : xm_ok Mj) (ho : ∃ r, st = as.reverse ++ r ∧ xm_sum r ≤ 8 ∧ cn + xm_mc Mj ≤ xm_mc M ∧ sn + xm_ms Mj ≤ xm_ms M ∧ call Mj as h (fun v h' => xm_G p l e R s m args below meth c Qw D dA ad b B0 (xm_ml M) (pc + 3, lo, v.toList ++ r, h', cn + xm_mc Mj, sn + xm_ms Mj)))
    (run : ∀ (ws : va_W) (H : Heap) (locs : List Loc) (ls : Array Slot) (ras r1 : List Value), ls.size = xm_ml M → xm_R ad b dA h ws → va_P D vwCl ws H → xm_st (xm_ad ws) b as ras → PreS s H (va_Pc ras (fun U => xm_E D dA b B0 L xs U ∧ va_P D vwCl ws U.heap)) ras → (r1.map fun v => v.category).sum ≤ 8 → (cn + xm_mc Mj ≤ R.cells ∧ sn + xm_ms Mj ≤ R.slots) → (∀ (Qc : Array Value → State → Outcome → State → Prop), Met l (xm_y Mj) (xm_ws Mj) (xm_rm d Mj) (va_Pc ras (fun U => xm_E D dA b B0 L xs U ∧ va_P D vwCl ws U.heap)) Qc (xm_mc Mj) (xm_ms Mj) (xm_A B0) → va_Run p l e R s m args below meth c H locs cn sn (xm_mc Mj) (xm_ms Mj) (F0 m pc ls (ras.reverse ++ r1)) r1 (Qc ras.toArray) (xm_A B0))) : xm_G p l e R s m args below meth c Qw D dA ad b B0 (xm_ml M) (pc, lo, st, h, cn, sn) := by
  obtain ⟨r, rfl, hr, hcl, hsl, hcall⟩ := ho
  intro ws H locs ls rst hc hs hI
  obtain ⟨iR, iP, iD, iS, iL, iT⟩ := hI
  obtain ⟨w1, r1, rfl, iT1, iT2⟩ := xm_st_app iT
  have hras : xm_st (xm_ad ws) b as w1.reverse := by
    have := xm_st_rev iT1
    rw [List.reverse_reverse] at this
    exact this
  have hMet := hM _ _ _ _ hcall ok ws w1.reverse ⟨iR.1, iR.2.1, xm_ad ws, rfl⟩ iD hras
  have hsum : (r1.map fun v => v.category).sum ≤ 8 := by
    have := xm_st_sum iT2
    unfold xm_sum at this hr
    omega
  have hcs : cn + xm_mc Mj ≤ R.cells ∧ sn + xm_ms Mj ≤ R.slots := ⟨by rw [F.2.2.1.1]; exact hcl, by rw [F.2.2.1.2]; exact hsl⟩
  have hpre : PreS s H (va_Pc w1.reverse (fun U => xm_E D dA b B0 L xs U ∧ va_P D vwCl ws U.heap)) w1.reverse := ⟨xm_E_blind, fun U hU hW => ⟨rfl, xm_E_go F.2.1 iS hU hW, by rw [hU]; exact iP⟩⟩
  have hrun := run ws H locs ls w1.reverse r1 iL.1 iR iP hras hpre hsum hcs _ hMet
  rw [List.reverse_reverse] at hrun
  refine xs_run hrun iS (fun v w h1 ws1 H1 locs1 hov hq hR1 hP1 hD1 hS1 => ?_)
  obtain ⟨x, hx⟩ := hR1.2.2
  refine hq ws1 H1 locs1 ls _ hcs.1 hcs.2 ⟨xm_R_trans iR hR1, hP1, hD1, hS1, by rw [hx]; exact xm_l_mono x iL, ?_⟩
  have hrest : xm_st (xm_ad ws1) b r r1 := by rw [hx]; exact xm_st_mono x iT2
  cases v with
  | none =>
    have hov : w = none := hov
    subst hov
    exact hrest
  | some v =>
    obtain ⟨u, rfl, hu⟩ : ∃ u, w = some u ∧ xm_v (xm_ad ws1) b v u := hov
    exact ⟨u, r1, rfl, hu, hrest⟩
theorem xs_static {k : Nat} (F : xm_F p R s m args meth c M d D dA b B0 L xs) {Mj : xm_M} {as : List Value} {call : xm_K} (hM : ∀ (M' : xm_M) (as' : List Value) (h' : xm_H) (Q' : xm_Q), call M' as' h' Q' → xm_ok M' → xm_Met l d D dA b B0 L xs M' as' h' Q') (hd : decode (xm_by M) pc = .ok (.invokestatic k, len)) (hl : len = 3) (ok : xm_ok Mj) (hlk : xm_lk (xm_y M).cls k (xm_y Mj)) (hst : Cond.static (xm_y Mj) ∈ tb_all) (hnp : xm_np (xm_y Mj) as.length) (ho : ∃ r, st = as.reverse ++ r ∧ xm_sum r ≤ 8 ∧ cn + xm_mc Mj ≤ xm_mc M ∧ sn + xm_ms Mj ≤ xm_ms M ∧ call Mj as h (fun v h' => xm_G p l e R s m args below meth c Qw D dA ad b B0 (xm_ml M) (pc + 3, lo, v.toList ++ r, h', cn + xm_mc Mj, sn + xm_ms Mj))) : xm_G p l e R s m args below meth c Qw D dA ad b B0 (xm_ml M) (pc, lo, st, h, cn, sn) := by
  subst hl
  refine xs_inv F hM ok ho (fun ws H locs ls ras r1 hsz iR iP hras hpre hsum hcs Qc hMet => ?_)
  have hlen : ras.length = as.length := xm_st_len hras
  have hini := F.1.2.2.2.2 _ ok.2.1
  rcases hlk with hlk | ⟨host, hlk⟩
  · exact va_runS (n := as.length) F.1 hMet ⟨callB_of as.length F.1.2.2.2.2 (tb_good ok.1) rfl rfl rfl hini (F.1.2.2.2.2 _ hlk) ⟨ok.2.2.2.1.1, ok.2.2.2.1.2, hnp⟩ ⟨by show d + 1 ≤ R.frames; exact F.2.2.2.1.1, by show 8 + (xm_ml Mj + 11) + 48 * d ≤ R.locals; have h1 := F.2.2.2.1.2; have h2 : xm_ml Mj ≤ 29 := ok.2.2.2.2; omega⟩, F.1.2.2.2.2 _ hst⟩ hpre rfl hlen hsz rfl (lv_room hsum) hd hcs
  · exact va_runSN (n := as.length) F.1 hMet ⟨va_cnB as.length F.1.2.2.2.2 (tb_good ok.1) rfl rfl rfl (F.2.1.2.2.2.2.1 _ hlk) hini ⟨ok.2.2.2.1.1, ok.2.2.2.1.2, hnp⟩ ⟨by show d + 1 ≤ R.frames; exact F.2.2.2.1.1, by show 8 + (xm_ml Mj + 11) + 48 * d ≤ R.locals; have h1 := F.2.2.2.1.2; have h2 : xm_ml Mj ≤ 29 := ok.2.2.2.2; omega⟩, F.1.2.2.2.2 _ hst, trivial⟩ hpre rfl hlen hsz rfl (lv_room hsum) hd hcs
theorem xs_special {k a : Nat} (F : xm_F p R s m args meth c M d D dA b B0 L xs) {Mj : xm_M} {as : List Value} {call : xm_K} (hM : ∀ (M' : xm_M) (as' : List Value) (h' : xm_H) (Q' : xm_Q), call M' as' h' Q' → xm_ok M' → xm_Met l d D dA b B0 L xs M' as' h' Q') (hd : decode (xm_by M) pc = .ok (.invokespecial k, len)) (hl : len = 3) (ok : xm_ok Mj) (hrt : xm_rt Mj = none) (hlk : xm_lk (xm_y M).cls k (xm_y Mj)) (hnm : (xm_y Mj).name = "<init>") (hin : Cond.instanceMethod (xm_y Mj) ∈ tb_all) (hnp : xm_np (xm_y Mj) as.length) (ho : ∃ r, st = (Value.ref a :: as).reverse ++ r ∧ xm_sum r ≤ 8 ∧ cn + xm_mc Mj ≤ xm_mc M ∧ sn + xm_ms Mj ≤ xm_ms M ∧ call Mj (.ref a :: as) h (fun v h' => xm_G p l e R s m args below meth c Qw D dA ad b B0 (xm_ml M) (pc + 3, lo, v.toList ++ r, h', cn + xm_mc Mj, sn + xm_ms Mj))) : xm_G p l e R s m args below meth c Qw D dA ad b B0 (xm_ml M) (pc, lo, st, h, cn, sn) := by
  subst hl
  refine xs_inv F hM ok ho (fun ws H locs ls ras r1 hsz iR iP hras hpre hsum hcs Qc hMet => ?_)
  obtain ⟨w, ras, rfl, hw, hras⟩ : ∃ w r, ras = w :: r ∧ xm_v (xm_ad ws) b (.ref a) w ∧ xm_st (xm_ad ws) b as r := hras
  obtain ⟨q, e3, rfl⟩ : ∃ q, (xm_ad ws)[a]? = some q ∧ w = .ref q := hw
  have hlen : ras.length = as.length := xm_st_len hras
  have hini := F.1.2.2.2.2 _ ok.2.1
  have hcode := ok.1
  have hst0 : (Value.ref q :: ras).reverse ++ r1 = ras.reverse ++ .ref q :: r1 := by simp
  rw [hst0]
  obtain ⟨y, bytes, maxL, ret, mc, ms⟩ := Mj
  have hrt : ret = none := hrt
  subst hrt
  rcases hlk with hlk | ⟨host, hlk⟩
  · exact va_runI (n := as.length) F.1 hMet ⟨callB_of as.length F.1.2.2.2.2 (tb_good hcode) rfl rfl rfl hini (F.1.2.2.2.2 _ hlk) ⟨ok.2.2.2.1.1, ok.2.2.2.1.2, hnp⟩ ⟨by show d + 1 ≤ R.frames; exact F.2.2.2.1.1, by show 8 + (maxL + 11) + 48 * d ≤ R.locals; have h1 := F.2.2.2.1.2; have h2 : maxL ≤ 29 := ok.2.2.2.2; omega⟩, hnm, F.1.2.2.2.2 _ hin⟩ hpre rfl hlen hsz rfl (lv_room hsum) hd hcs
  · exact va_runIN (n := as.length) F.1 hMet ⟨va_cnB as.length F.1.2.2.2.2 (tb_good hcode) rfl rfl rfl (F.2.1.2.2.2.2.1 _ hlk) hini ⟨ok.2.2.2.1.1, ok.2.2.2.1.2, hnp⟩ ⟨by show d + 1 ≤ R.frames; exact F.2.2.2.1.1, by show 8 + (maxL + 11) + 48 * d ≤ R.locals; have h1 := F.2.2.2.1.2; have h2 : maxL ≤ 29 := ok.2.2.2.2; omega⟩, hnm, F.1.2.2.2.2 _ hin⟩ hpre rfl hlen hsz rfl (lv_room hsum) hd hcs
theorem xs_virtual {k a ci : Nat} {fs : List Value} {C : String} {T : u_T} {N : Nat} {ty : Nat → FieldType} (F : xm_F p R s m args meth c M d D dA b B0 L xs) {Mj : xm_M} {as : List Value} {call : xm_K} (hM : ∀ (M' : xm_M) (as' : List Value) (h' : xm_H) (Q' : xm_Q), call M' as' h' Q' → xm_ok M' → xm_Met l d D dA b B0 L xs M' as' h' Q') (hd : decode (xm_by M) pc = .ok (.invokevirtual k, len)) (hl : len = 3) (ok : xm_ok Mj) (hlk : xm_lk (xm_y M).cls k (xm_y Mj)) (hin : Cond.instanceMethod (xm_y Mj) ∈ tb_all) (hsel : Cond.selects (xm_y Mj).cls (xm_y Mj) (xm_y Mj) ∈ tb_all) (hnp : xm_np (xm_y Mj) as.length) (hcl : xm_cl ci C T N ty) (hC : C = (xm_y Mj).cls) (ha : h[a]? = some (.inr (ci, fs))) (ho : ∃ r, st = (Value.ref a :: as).reverse ++ r ∧ xm_sum r ≤ 8 ∧ cn + xm_mc Mj ≤ xm_mc M ∧ sn + xm_ms Mj ≤ xm_ms M ∧ call Mj (.ref a :: as) h (fun v h' => xm_G p l e R s m args below meth c Qw D dA ad b B0 (xm_ml M) (pc + 3, lo, v.toList ++ r, h', cn + xm_mc Mj, sn + xm_ms Mj))) : xm_G p l e R s m args below meth c Qw D dA ad b B0 (xm_ml M) (pc, lo, st, h, cn, sn) := by
  subst hl
  refine xs_inv F hM ok ho (fun ws H locs ls ras r1 hsz iR iP hras hpre hsum hcs Qc hMet => ?_)
  obtain ⟨w, ras, rfl, hw, hras⟩ : ∃ w r, ras = w :: r ∧ xm_v (xm_ad ws) b (.ref a) w ∧ xm_st (xm_ad ws) b as r := hras
  obtain ⟨q, e3, rfl⟩ : ∃ q, (xm_ad ws)[a]? = some q ∧ w = .ref q := hw
  obtain ⟨q2, ec, f1, f2, f3⟩ := xm_R_get iR ha
  obtain ⟨gs, rfl, hgs⟩ : ∃ gs, ec = .inr (ci, gs) ∧ xm_st (xm_ad ws) b fs gs := f3
  obtain rfl : q = q2 := Option.some.inj (e3.symm.trans f2)
  have hlen : ras.length = as.length := xm_st_len hras
  have hini := F.1.2.2.2.2 _ ok.2.1
  have hrecv := va_recv F.2.1.1 iP hcl.1 f1
  rw [show (C, T, N).1 = (xm_y Mj).cls from hC] at hrecv
  have hst0 : (Value.ref q :: ras).reverse ++ r1 = ras.reverse ++ .ref q :: r1 := by simp
  rw [hst0]
  have hpv : PreV s H (xm_y Mj).cls q (va_Pc (.ref q :: ras) (fun U => xm_E D dA b B0 L xs U ∧ va_P D vwCl ws U.heap)) ras := ⟨hpre.1, hrecv, hpre.2⟩
  rcases hlk with hlk | ⟨host, hlk⟩
  · exact va_runV (n := as.length) F.1 hMet ⟨callB_of as.length F.1.2.2.2.2 (tb_good ok.1) rfl rfl rfl hini (F.1.2.2.2.2 _ hlk) ⟨ok.2.2.2.1.1, ok.2.2.2.1.2, hnp⟩ ⟨by show d + 1 ≤ R.frames; exact F.2.2.2.1.1, by show 8 + (xm_ml Mj + 11) + 48 * d ≤ R.locals; have h1 := F.2.2.2.1.2; have h2 : xm_ml Mj ≤ 29 := ok.2.2.2.2; omega⟩, F.1.2.2.2.2 _ hin, F.1.2.2.2.2 _ hsel⟩ hpv rfl hlen hsz rfl (lv_room hsum) hd hcs
  · exact va_runVN (n := as.length) F.1 hMet ⟨va_cnB as.length F.1.2.2.2.2 (tb_good ok.1) rfl rfl rfl (F.2.1.2.2.2.2.1 _ hlk) hini ⟨ok.2.2.2.1.1, ok.2.2.2.1.2, hnp⟩ ⟨by show d + 1 ≤ R.frames; exact F.2.2.2.1.1, by show 8 + (xm_ml Mj + 11) + 48 * d ≤ R.locals; have h1 := F.2.2.2.1.2; have h2 : xm_ml Mj ≤ 29 := ok.2.2.2.2; omega⟩, F.1.2.2.2.2 _ hin, F.1.2.2.2.2 _ hsel⟩ hpv rfl hlen hsz rfl (lv_room hsum) hd hcs
end XS
end
section
/-! An int[9][9] is made (multianewarray): the outer row, then the nine inner ones, each put into its place as it comes. -/
def xg_o (cA : ClassId) (z i : Nat) : Cell := arrV cA 9 (fun j => if j < i then .ref (z + 1 + j) else .null)
def xg_i (cI : ClassId) : Cell := arrV cI 9 (fun _ => .int 0)
def xg_s (T : State) (cA cI : ClassId) : Nat → State
  | 0 => T.pushCell (xg_o cA T.heap.size 0)
  | i + 1 => ((xg_s T cA cI i).pushCell (xg_i cI)).setCell T.heap.size (xg_o cA T.heap.size (i + 1))
theorem xg_o_set (cA : ClassId) (z i : Nat) : (xg_o cA z i).setSlot i (.ref (z + 1 + i)) = xg_o cA z (i + 1) := by
  unfold xg_o
  rw [arrV_store]
  congr 1
  funext j
  unfold updV
  by_cases h : j = i
  · subst h
    rw [if_pos rfl, if_pos (Nat.lt_succ_self _)]
  · rw [if_neg h]
    dsimp only
    by_cases h2 : j < i
    · rw [if_pos h2, if_pos (by omega)]
    · rw [if_neg h2, if_neg (by omega)]
theorem xg_o_size (cA : ClassId) (z i : Nat) : (xg_o cA z i).slots.size = 9 := arrV_size _ _ _
theorem xg_i_size (cI : ClassId) : (xg_i cI).slots.size = 9 := arrV_size _ _ _
theorem xg_fact (T : State) (cA cI : ClassId) : ∀ i, (xg_s T cA cI i).heap.size = T.heap.size + 1 + i ∧ (xg_s T cA cI i).heap[T.heap.size]? = some (xg_o cA T.heap.size i) ∧ (xg_s T cA cI i).vm = T.vm ∧ (xg_s T cA cI i).slotsUsed = T.slotsUsed + 9 + 9 * i ∧
    (∀ q, q < T.heap.size → (xg_s T cA cI i).heap[q]? = T.heap[q]?) ∧ (∀ j, j < i → (xg_s T cA cI i).heap[T.heap.size + 1 + j]? = some (xg_i cI))
  | 0 => by
    refine ⟨size_pushCell _ _, State.heap_pushCell_size _ _, rfl, ?_, fun q hq => State.heap_pushCell_of_lt _ _ hq, fun j hj => absurd hj (Nat.not_lt_zero _)⟩
    show T.slotsUsed + (xg_o cA T.heap.size 0).slots.size = _
    rw [xg_o_size]
  | i + 1 => by
    obtain ⟨f1, f2, f3, f4, f5, f6⟩ := xg_fact T cA cI i
    have hz : T.heap.size < (xg_s T cA cI i).heap.size := by omega
    have hz2 : ((xg_s T cA cI i).pushCell (xg_i cI)).heap[T.heap.size]? = some (xg_o cA T.heap.size i) := by rw [State.heap_pushCell_of_lt _ _ hz]; exact f2
    refine ⟨?_, State.heap_setCell_self hz2, f3, ?_, fun q hq => ?_, fun j hj => ?_⟩
    · show (((xg_s T cA cI i).pushCell (xg_i cI)).setCell _ _).heap.size = _
      rw [size_setCell, size_pushCell, f1]
      omega
    · show (xg_s T cA cI i).slotsUsed + (xg_i cI).slots.size = _
      rw [xg_i_size, f4]
      omega
    · show (((xg_s T cA cI i).pushCell (xg_i cI)).setCell _ _).heap[q]? = _
      rw [State.heap_setCell_other (Nat.ne_of_gt hq), State.heap_pushCell_of_lt _ _ (show q < (xg_s T cA cI i).heap.size by omega)]
      exact f5 q hq
    · show (((xg_s T cA cI i).pushCell (xg_i cI)).setCell _ _).heap[_]? = _
      rw [State.heap_setCell_other (show T.heap.size ≠ T.heap.size + 1 + j by omega)]
      by_cases hji : j = i
      · subst hji
        rw [← f1]
        exact State.heap_pushCell_size _ _
      · rw [State.heap_pushCell_of_lt _ _ (show T.heap.size + 1 + j < (xg_s T cA cI i).heap.size by omega)]
        exact f6 j (by omega)
theorem xg_top (T : State) (g : JFrame) (cA cI : ClassId) : ∀ i, xg_s (T.setTop g) cA cI i = (xg_s T cA cI i).setTop g
  | 0 => rfl
  | i + 1 => by
    unfold xg_s
    rw [xg_top T g cA cI i]
    rfl
section XG
variable {p : Program} {l : Launch} {e : Env} {R : Room} {s : State} {m : MethodId} {args : Array Value} {below : List Frame} {meth : Method} {c : Code} {T : State} {locs : List Loc} {cells slots : Nat}
theorem xg_stand (X : Stand p l e R s m args below meth c T locs cells slots) (cA cI : ClassId) : ∀ i, ∃ L : List Loc, (∀ q ∈ L, q.base = T.heap.size) ∧ Stand p l e R s m args below meth c (xg_s T cA cI i) (locs ++ L) (cells + 1 + i) (slots + 9 + 9 * i)
  | 0 => by
    have h := X.pushed (xg_o cA T.heap.size 0)
    rw [xg_o_size] at h
    exact ⟨[], fun q hq => (by cases hq), by rw [List.append_nil]; exact h⟩
  | i + 1 => by
    obtain ⟨L, hL, Xi⟩ := xg_stand X cA cI i
    obtain ⟨f1, f2, -⟩ := xg_fact T cA cI i
    have hz : T.heap.size < (xg_s T cA cI i).heap.size := by omega
    have hz2 : ((xg_s T cA cI i).pushCell (xg_i cI)).heap[T.heap.size]? = some (xg_o cA T.heap.size i) := by rw [State.heap_pushCell_of_lt _ _ hz]; exact f2
    have h := (Xi.pushed (xg_i cI)).stored hz2 i (.ref (T.heap.size + 1 + i))
    rw [xg_i_size, xg_o_set, List.append_assoc] at h
    refine ⟨L ++ [⟨T.heap.size, i⟩], fun q hq => ?_, ?_⟩
    · rcases List.mem_append.mp hq with h | h
      · exact hL q h
      · rw [List.mem_singleton] at h
        rw [h]
    · have e1 : slots + 9 + 9 * (i + 1) = slots + 9 + 9 * i + 9 := by omega
      rw [e1]
      exact h
end XG
section XH
variable {E : CtlPost} {e : Env} {d : Bool} {acts : List Action} {s : State}
theorem xg_make1 {cI pI : ClassId} {kI : Class} {Q : Addr → Pre} (hk : s.vm.classes[cI]? = some kI) (hkind : kI.kind = .array pI .int) (hlim : ¬ 9 > e.platform.arrayLengthLimit) (hmem : ¬ 9 * componentBytes .int > e.platform.maxHeapBytes)
    (hc : s.heap.size < e.platform.maxCells) (hs : s.slotsUsed + 9 ≤ e.platform.maxSlots) (hq : ∀ acts', Q s.heap.size d acts' (s.pushCell (xg_i cI))) : wp (multianewarray.make cI [9]) Q E e d acts s := by
  rw [multianewarray.make]
  have h9 : ¬ (9 : Int32) < 0 := by decide
  have hc9 : (9 : Int32).toNatClampNeg = 9 := by decide
  simp only [wp_bind', W.ite, h9, if_false, wp_pure', W.theClass, hk, hkind, Option.some.injEq, exists_eq_left', hc9]
  refine W.newArray_of hk hkind hlim hmem hc hs rfl (fun acts' => ?_)
  have e1 : ({ cls := cI, slots := Array.replicate 9 (defaultValue .int) } : Cell) = xg_i cI := arrV_new cI 9 (.int 0)
  rw [e1]
  exact hq acts'
theorem xg_make2 {cA cI pI : ClassId} {kA kI : Class} {Q : Addr → Pre} (hkA : s.vm.classes[cA]? = some kA) (hkindA : kA.kind = .array cI (.array .int)) (hk : s.vm.classes[cI]? = some kI) (hkind : kI.kind = .array pI .int) (hlim : ¬ 9 > e.platform.arrayLengthLimit)
    (hmem : ¬ 9 * 4 > e.platform.maxHeapBytes) (hc : s.heap.size + 10 ≤ e.platform.maxCells) (hs : s.slotsUsed + 90 ≤ e.platform.maxSlots) (hq : ∀ d' acts', Q s.heap.size d' acts' (xg_s s cA cI 9)) : wp (multianewarray.make cA [9, 9]) Q E e d acts s := by
  rw [multianewarray.make]
  have h9 : ¬ (9 : Int32) < 0 := by decide
  have hc9 : (9 : Int32).toNatClampNeg = 9 := by decide
  have hfind : ([(9 : Int32)].find? (· < 0)) = none := by decide
  simp only [wp_bind', W.ite, h9, if_false, wp_pure', W.theClass, hkA, hkindA, Option.some.injEq, exists_eq_left', hc9]
  refine W.newArray_of hkA hkindA hlim hmem (by omega) (by omega) rfl (fun acts' => ?_)
  have e1 : ({ cls := cA, slots := Array.replicate 9 .null } : Cell) = xg_o cA s.heap.size 0 := by
    rw [show ({ cls := cA, slots := Array.replicate 9 .null } : Cell) = arrV cA 9 (fun _ => .null) from arrV_new cA 9 .null]
    rfl
  rw [e1]
  simp only [hfind]
  rw [ite_self, wp_bind', Std.Legacy.Range.forIn_eq_forIn_range']
  have hsz : ([:9] : Std.Legacy.Range).size = 9 := by simp [Std.Legacy.Range.size]
  rw [hsz]
  show wp (forIn (List.range' 0 9 1) PUnit.unit _) _ E e d acts' _
  refine wp_forIn_inv (fun rest s' => ∃ i, i ≤ 9 ∧ rest = List.range' i (9 - i) ∧ s' = xg_s s cA cI i) _ _ ⟨0, Nat.zero_le _, rfl, rfl⟩ ?_ ?_
  · rintro x rest s' d' acts2 Q' ⟨i, hi, hl, rfl⟩ hnext
    have hlt : i < 9 := by
      rcases Nat.lt_or_ge i 9 with h | h
      · exact h
      · rw [show 9 - i = 0 by omega] at hl
        cases hl
    rw [show 9 - i = (9 - (i + 1)) + 1 by omega, List.range'_succ] at hl
    obtain ⟨rfl, hrest⟩ : x = i ∧ rest = List.range' (i + 1) (9 - (i + 1)) := ⟨(List.cons.inj hl).1, (List.cons.inj hl).2⟩
    obtain ⟨f1, f2, f3, f4, f5, f6⟩ := xg_fact s cA cI x
    simp only [wp_bind']
    refine xg_make1 (by rw [f3]; exact hk) hkind hlim hmem (by omega) (by omega) (fun acts3 => ?_)
    have hz : s.heap.size < (xg_s s cA cI x).heap.size := by omega
    simp only [wp_bind', W.writeLoc, wp_pure']
    refine ⟨xg_o cA s.heap.size x, by rw [State.heap_pushCell_of_lt _ _ hz]; exact f2, (fun h => by cases h), by rw [xg_o_size]; exact hlt, ?_, hnext _ _ _ ⟨x + 1, hlt, hrest, ?_⟩⟩
    · show ((xg_s s cA cI x).pushCell (xg_i cI)).fitsSlot cA .none x _ = true
      simp [State.fitsSlot, State.slotType?, f3, hkA, hkindA, fits]
    · rw [f1, xg_o_set]
      rfl
  · rintro s' d' acts2 ⟨i, hi, hl, rfl⟩
    have hi9 : i = 9 := by
      rcases Nat.lt_or_ge i 9 with h | h
      · rw [show 9 - i = (9 - (i + 1)) + 1 by omega, List.range'_succ] at hl
        cases hl
      · omega
    subst hi9
    simp only [wp_pure']
    exact hq _ _
end XH
section XI
variable {p : Program} {l : Launch} {e : Env} {R : Room} {s : State} {m : MethodId} {args : Array Value} {below : List Frame} {meth : Method} {c : Code} {H : Heap} {locs : List Loc} {cells slots : Nat} {Q : State → Prop}
theorem xg_W {cc : ByteArray} (hexec : p.tables.exec = Jvm.exec) (hb : c.code = cc) {own : String} {index : Nat} (hown : s.vm.findClass own = some m.cls) (hclink : (Cond.classLink own index "[[I").before args s = true)
    {cA cI pI : ClassId} {kA kI : Class} (hfA : s.vm.findClass "[[I" = some cA) (hkA : s.vm.classes[cA]? = some kA) (hkindA : kA.kind = .array cI (.array .int)) (hkI : s.vm.classes[cI]? = some kI) (hkind : kI.kind = .array pI .int)
    {pc : Nat} {ls : Array Slot} {rest : List Value} (hdg : decode cc pc = .ok (.multianewarray index 2, 4)) (hcells : cells + 10 ≤ R.cells) (hslots : slots + 90 ≤ R.slots)
    (kk : ∀ (H1 : Heap) (L : List Loc), (∀ q ∈ L, q.base = H.size) → H1.size = H.size + 10 → H1[H.size]? = some (xg_o cA H.size 9) → (∀ q, q < H.size → H1[q]? = H[q]?) → (∀ j, j < 9 → H1[H.size + 1 + j]? = some (xg_i cI)) →
      W p l e R s m args below meth c H1 (locs ++ L) (cells + 10) (slots + 90) Q (F0 m (pc + 4) ls (.ref H.size :: rest))) : W p l e R s m args below meth c H locs cells slots Q (F0 m pc ls (.int 9 :: .int 9 :: rest)) := by
  intro T hT X
  subst hT; subst hb
  have hpl : e.platform.magicAccessors = ({} : Platform).magicAccessors := by rw [X.admits.platform]
  obtain ⟨c0, hfc0, hcl⟩ := Cond.classLink_spec hown hclink e.platform hpl
  cases hfA.symm.trans hfc0
  obtain ⟨hg₁, hwarm₁, hready₁⟩ := State.classEntry (e := e) X.warmed hcl
  generalize T.vm.noted m.cls index (.cls cA) = vm₁ at hg₁ hwarm₁ hready₁
  have hal : s.vm.Alike vm₁ := hwarm₁.alike
  obtain ⟨kA₁, hkA₁, heA⟩ := hal.2.2 _ _ hkA
  obtain ⟨kI₁, hkI₁, heI⟩ := hal.2.2 _ _ hkI
  have hkindA₁ : kA₁.kind = .array cI (.array .int) := by rw [heA]; exact hkindA
  have hkind₁ : kI₁.kind = .array pI .int := by rw [heI]; exact hkind
  have X₁ := X.noted hwarm₁
  obtain ⟨hr1, hr2⟩ := X.roomAbove hcells hslots
  obtain ⟨L, hL, XF⟩ := xg_stand X₁ cA cI 9
  obtain ⟨f1, f2, f3, f4, f5, f6⟩ := xg_fact (T.setVm vm₁) cA cI 9
  obtain ⟨t, a1, b1⟩ := kk (xg_s (T.setVm vm₁) cA cI 9).heap L hL f1 f2 f5 f6 _ rfl XF
  refine ⟨t, ?_, b1⟩
  have hlim : ¬ 9 > e.platform.arrayLengthLimit := by rw [Launch.admits_arrayLengthLimit X.admits]; omega
  have hmem : ¬ 9 * 4 > e.platform.maxHeapBytes := by rw [Launch.admits_maxHeapBytes X.admits]; omega
  jvm_step X.here [hexec, hdg]
  simp only [multianewarray.sem, wp_bind', W.resolveClassAt_links (State.method?_setTop (F0 m pc ls (.int 9 :: .int 9 :: rest)) X.here.top) hg₁]
  rw [W.popN, if_neg (by decide)]
  refine ⟨_, State.topJava?_setTop' (s := T.setVm vm₁) _ X.here.top, [.int 9, .int 9], rest, rfl, rfl, ?_⟩
  simp only [List.mapM_cons, List.mapM_nil, wp_bind', wp_pure']
  refine xg_make2 (kA := kA₁) (kI := kI₁) hkA₁ hkindA₁ hkI₁ hkind₁ hlim hmem (by show T.heap.size + 10 ≤ _; omega) (by show T.slotsUsed + 90 ≤ _; omega) (fun d' acts' => ?_)
  have eS : ∀ g g2 : JFrame, ((T.setTop g).setVm vm₁).setTop g2 = (T.setVm vm₁).setTop g2 := fun g g2 => by
    show ((T.setVm vm₁).setTop g).setTop g2 = _
    rw [State.setTop_setTop]
  rw [eS, xg_top]
  simp only [wp_bind', W.mark, W.pushRef, State.topJava?_setTop' _ XF.here.top, Option.some.injEq, exists_eq_left', State.setTop_setTop, State.heap_setTop]
  intro acts
  simp [jvm, XF.here.top]
  exact a1
end XI
theorem xm_R_app {ad : List Nat} {b : Nat} {dA : FieldType → ClassId} {h cs : xm_H} {ws qs : va_W} (hR : xm_R ad b dA h ws) (hl : qs.length = cs.length) (hc : ∀ (k : Nat) (v : xm_C) (q : Nat × va_E), cs[k]? = some v → qs[k]? = some q → xm_c (xm_ad ws ++ xm_ad qs) b dA v q.2) : xm_R ad b dA (h ++ cs) (ws ++ qs) := by
  have e1 : xm_ad (ws ++ qs) = xm_ad ws ++ xm_ad qs := by simp [xm_ad]
  refine ⟨by rw [List.length_append, List.length_append, hR.1, hl], fun j u x hj hx => ?_, by obtain ⟨x, hx⟩ := hR.2.2; exact ⟨x ++ xm_ad qs, by rw [e1, hx, List.append_assoc]⟩⟩
  rw [e1]
  by_cases hl : j < h.length
  · rw [List.getElem?_append_left hl] at hj
    rw [List.getElem?_append_left (by rw [hR.1]; exact hl)] at hx
    exact xm_c_mono _ (hR.2.1 j u x hj hx)
  · rw [List.getElem?_append_right (by omega)] at hj
    rw [List.getElem?_append_right (by rw [hR.1]; omega), hR.1] at hx
    exact hc _ u x hj hx
section XJ
variable {p : Program} {l : Launch} {e : Env} {R : Room} {s : State} {m : MethodId} {args : Array Value} {below : List Frame} {meth : Method} {c : Code} {Qw : State → Prop} {M : xm_M} {d : Nat} {D : va_G} {dA : FieldType → ClassId} {ad : List Nat} {b B0 L : Nat} {xs : Nat → Int32}
variable {len pc : Nat} {lo st : List Value} {h : xm_H} {cn sn : Nat}
theorem xs_multi {k d0 : Nat} (F : xm_F p R s m args meth c M d D dA b B0 L xs) (hd : decode (xm_by M) pc = .ok (.multianewarray k d0, len))
    (ho : len = 4 ∧ ∃ r, d0 = 2 ∧ Cond.classLink (xm_y M).cls k "[[I" ∈ tb_all ∧ st = .int 9 :: .int 9 :: r ∧ cn + 10 ≤ xm_mc M ∧ sn + 90 ≤ xm_ms M ∧ xm_G p l e R s m args below meth c Qw D dA ad b B0 (xm_ml M) (pc + 4, lo, .ref h.length :: r, h ++ .inl (.array .int, 9, .inr (.inr (.inr (.inr (fun j => some (h.length + 1 + j)))))) :: List.replicate 9 (.inl (.int, 9, .inl (fun _ => 0))), cn + 10, sn + 90)) :
    xm_G p l e R s m args below meth c Qw D dA ad b B0 (xm_ml M) (pc, lo, st, h, cn, sn) := by
  obtain ⟨rfl, r, rfl, hw, rfl, hcl, hsl, hk⟩ := ho
  intro ws H locs ls rst hc hs hI
  obtain ⟨iR, iP, iD, iS, iL, w1, r1, rfl, e1, w2, r2, rfl, e2, iT⟩ := hI
  have e1 : w1 = .int 9 := e1
  have e2 : w2 = .int 9 := e2
  subst e1; subst e2
  have E := F.2.1
  obtain ⟨kA, hkA, hkindA⟩ := E.2.2.2.2.2.2
  have hfA : s.vm.findClass "[[I" = some (dA (.array .int)) := (E.1.2 2 (dA (.array .int), .array .int) rfl).2
  obtain ⟨-, kI, hkI, pI, hkind⟩ := (E.1.2 0 (dA .int, .int) rfl).1 0 (fun _ => .int 0)
  have hcl' : cn + 10 ≤ R.cells := by rw [F.2.2.1.1]; exact hcl
  have hsl' : sn + 90 ≤ R.slots := by rw [F.2.2.1.2]; exact hsl
  refine xg_W F.1.1 F.1.2.1 F.1.2.2.2.1 (F.1.2.2.2.2 _ hw) hfA hkA hkindA hkI hkind hd hcl' hsl' (fun H1 L1 hL1 z1 g1 g2 g3 => ?_)
  have hnew : ∀ q, H.size ≤ q → xm_A B0 q := fun q hq => Nat.le_trans E.2.2.2.1 (Nat.le_trans iS.1 hq)
  have hlen9 : ∀ k, k < 10 → ((H.size, (.inl (dA (.array .int), 9, .inr (.inr (.inr (.inr (fun j => some (H.size + 1 + j)))))) : va_E)) :: (List.range 9).map (fun j => (H.size + 1 + j, (.inl (dA .int, 9, .inl (fun _ => 0)) : va_E))))[k]? = some (H.size + k, if k = 0 then .inl (dA (.array .int), 9, .inr (.inr (.inr (.inr (fun j => some (H.size + 1 + j)))))) else .inl (dA .int, 9, .inl (fun _ => 0))) := by
    intro k hk
    cases k with
    | zero => rfl
    | succ k =>
      rw [List.getElem?_cons_succ, List.getElem?_map, List.getElem?_range (by omega)]
      simp
      omega
  generalize hqs : ((H.size, (.inl (dA (.array .int), 9, .inr (.inr (.inr (.inr (fun j => some (H.size + 1 + j)))))) : va_E)) :: (List.range 9).map (fun j => (H.size + 1 + j, (.inl (dA .int, 9, .inl (fun _ => 0)) : va_E)))) = qs at hlen9
  have hql : qs.length = 10 := by rw [← hqs]; rfl
  have hqk : ∀ (k : Nat) (q : Nat × va_E), qs[k]? = some q → k < 10 ∧ q = (H.size + k, if k = 0 then .inl (dA (.array .int), 9, .inr (.inr (.inr (.inr (fun j => some (H.size + 1 + j)))))) else .inl (dA .int, 9, .inl (fun _ => 0))) := fun k q hq => by
    have hk10 : k < 10 := by rw [← hql]; exact (List.getElem?_eq_some_iff.mp hq).1
    exact ⟨hk10, Option.some.inj (hq.symm.trans (hlen9 k hk10))⟩
  have hadq : ∀ k, k < 10 → (xm_ad ws ++ xm_ad qs)[h.length + k]? = some (H.size + k) := fun k hk => by
    rw [List.getElem?_append_right (by simp [iR.1]), List.length_map, iR.1, Nat.add_sub_cancel_left, List.getElem?_map, hlen9 k hk]
    rfl
  have hP1 : va_P D vwCl (ws ++ qs) H1 := by
    refine (iP.kept (fun k q hq => g2 q.1 ((iP k q hq).lt))).app (fun k q hq => ?_)
    obtain ⟨hk10, rfl⟩ := hqk k q hq
    cases k with
    | zero =>
      show H1[H.size]? = some (vp_cell _ _)
      rw [g1, vp_cell_q]
      refine congrArg some ?_
      unfold xg_o
      show arrV _ 9 _ = arrV _ 9 _
      unfold arrV
      congr 1
    | succ k =>
      show H1[H.size + (k + 1)]? = some (vp_cell (dA .int) (9, .inl (fun _ => 0)))
      rw [show H.size + (k + 1) = H.size + 1 + k by omega, g3 k (by omega)]
      rfl
  have hD1 : va_D (xm_A B0) (ws ++ qs) := by
    refine va_D.app iD ⟨fun i j x y hx hy hxy => ?_, fun k q hq => ?_⟩ (fun i j x y hx hy hxy => ?_)
    · obtain ⟨-, rfl⟩ := hqk i x hx
      obtain ⟨-, rfl⟩ := hqk j y hy
      have hxy : H.size + i = H.size + j := hxy
      omega
    · obtain ⟨-, rfl⟩ := hqk k q hq
      exact hnew _ (Nat.le_add_right _ _)
    · obtain ⟨-, rfl⟩ := hqk j y hy
      have h1 := (iP i x hx).lt
      have hxy : x.1 = H.size + j := hxy
      omega
  have hS1 : va_S (xm_A B0) s.heap H1 (locs ++ L1) := by
    refine ⟨by have := iS.1; omega, fun q h1 h2 => (g2 q (Nat.lt_of_lt_of_le h1 iS.1)).trans (iS.2.1 q h1 h2), fun q hq => ?_⟩
    rcases List.mem_append.mp hq with h | h
    · exact iS.2.2 q h
    · rw [hL1 q h]
      exact hnew _ (Nat.le_refl _)
  have hR1 : xm_R ad b dA (h ++ .inl (.array .int, 9, .inr (.inr (.inr (.inr (fun j => some (h.length + 1 + j)))))) :: List.replicate 9 (.inl (.int, 9, .inl (fun _ => 0)))) (ws ++ qs) := by
    refine xm_R_app iR (by rw [hql]; rfl) (fun k v q hv hq => ?_)
    obtain ⟨hk10, rfl⟩ := hqk k q hq
    cases k with
    | zero =>
      cases hv
      refine ⟨_, rfl, fun j hj => ⟨H.size + 1 + j, ?_, rfl⟩⟩
      rw [Nat.add_assoc, hadq (1 + j) (by omega), Nat.add_assoc]
    | succ k =>
      rw [List.getElem?_cons_succ] at hv
      have hv := List.eq_of_mem_replicate (List.mem_of_getElem? hv)
      subst hv
      rfl
  have e3 : xm_ad (ws ++ qs) = xm_ad ws ++ xm_ad qs := by simp [xm_ad]
  refine hk _ H1 _ ls _ hcl' hsl' ⟨hR1, hP1, hD1, hS1, ?_, _, _, rfl, ⟨H.size, ?_, rfl⟩, ?_⟩
  · show xm_l (xm_ad _) b _ lo ls
    rw [e3]
    exact xm_l_mono _ iL
  · show (xm_ad _)[h.length]? = some H.size
    rw [e3]
    have := hadq 0 (by omega)
    rw [Nat.add_zero, Nat.add_zero] at this
    exact this
  · show xm_st (xm_ad _) b r _
    rw [e3]
    exact xm_st_mono _ iT
end XJ
end
section
/-! The steps together; a method's contract out of its small machine. (Printed by gen_close.py.) -/
section XC
variable {p : Program} {l : Launch} {e : Env} {R : Room} {s : State} {m : MethodId} {args : Array Value} {below : List Frame} {meth : Method} {c : Code} {Qw : State → Prop} {M : xm_M} {d : Nat} {D : va_G} {dA : FieldType → ClassId} {ad : List Nat} {b B0 L : Nat} {xs : Nat → Int32}
set_option maxHeartbeats 4000000 in
set_option maxRecDepth 100000 in
theorem xs_cls (F : xm_F p R s m args meth c M d D dA b B0 L xs) (hM : ∀ (M' : xm_M) (as' : List Value) (h' : xm_H) (Q' : xm_Q), xm_call L xs d M' as' h' Q' → xm_ok M' → xm_Met l d D dA b B0 L xs M' as' h' Q') {Q : xm_Q}
    (hret : ∀ (i : Instr) (len pc : Nat) (lo st : List Value) (h : xm_H) (cn sn : Nat), (i = .ireturn ∨ i = .lreturn ∨ i = .return_) → decode (xm_by M) pc = .ok (i, len) → xm_op L xs (xm_call L xs d) M i len pc lo st h cn sn (xm_G p l e R s m args below meth c Qw D dA ad b B0 (xm_ml M)) Q → xm_G p l e R s m args below meth c Qw D dA ad b B0 (xm_ml M) (pc, lo, st, h, cn, sn)) :
    xm_cls L xs (xm_call L xs d) M Q (xm_G p l e R s m args below meth c Qw D dA ad b B0 (xm_ml M)) := by
  intro pc lo st h cn sn i len hd ho
  cases i with
  | iconst n => exact xs_iconst F hd ho
  | bipush n => exact xs_bipush F hd ho
  | sipush n => exact xs_sipush F hd ho
  | lconst n => exact xs_lconst F hd ho
  | ldc2_w k => exact xs_ldc2_w F hd ho
  | iload_n n => exact xs_iload_n F hd ho
  | iload n => exact xs_iload F hd ho
  | lload_n n => exact xs_lload_n F hd ho
  | lload n => exact xs_lload F hd ho
  | aload_n n => exact xs_aload_n F hd ho
  | aload n => exact xs_aload F hd ho
  | istore_n n => exact xs_istore_n F hd ho
  | istore n => exact xs_istore F hd ho
  | lstore_n n => exact xs_lstore_n F hd ho
  | lstore n => exact xs_lstore F hd ho
  | astore_n n => exact xs_astore_n F hd ho
  | astore n => exact xs_astore F hd ho
  | iinc n k => exact xs_iinc F hd ho
  | iadd => exact xs_iadd F hd ho
  | isub => exact xs_isub F hd ho
  | imul => exact xs_imul F hd ho
  | iand => exact xs_iand F hd ho
  | ladd => exact xs_ladd F hd ho
  | lsub => exact xs_lsub F hd ho
  | land => exact xs_land F hd ho
  | lor => exact xs_lor F hd ho
  | lxor => exact xs_lxor F hd ho
  | lshl => exact xs_lshl F hd ho
  | lshr => exact xs_lshr F hd ho
  | lushr => exact xs_lushr F hd ho
  | i2l => exact xs_i2l F hd ho
  | l2i => exact xs_l2i F hd ho
  | lcmp => exact xs_lcmp F hd ho
  | dup => exact xs_dup F hd ho
  | pop => exact xs_pop F hd ho
  | goto off => exact xs_goto F hd ho
  | tableswitch d0 l0 h0 offs => exact xs_tableswitch F hd ho
  | arraylength => exact xs_arraylength F hd ho
  | iaload => exact xs_iaload F hd ho
  | laload => exact xs_laload F hd ho
  | aaload => exact xs_aaload F hd ho
  | iastore => exact xs_iastore F hd ho
  | lastore => exact xs_lastore F hd ho
  | aastore => exact xs_aastore F hd ho
  | getfield k => exact xs_getfield F hd ho
  | putfield k => exact xs_putfield F hd ho
  | anewarray k => exact xs_anewarray F hd ho
  | new k => exact xs_new F hd ho
  | ifCond o off =>
    obtain ⟨h1, t, x, r, h2, h3, h4⟩ := ho
    cases o with
    | eq => exact xs_ifeq F hd ⟨h1, t, x, r, h2, h3, h4⟩
    | ne => exact xs_ifne F hd ⟨h1, t, x, r, h2, h3, h4⟩
    | lt => exact xs_iflt F hd ⟨h1, t, x, r, h2, h3, h4⟩
    | ge => exact xs_ifge F hd ⟨h1, t, x, r, h2, h3, h4⟩
    | gt => exact xs_ifgt F hd ⟨h1, t, x, r, h2, h3, h4⟩
    | le => exact xs_ifle F hd ⟨h1, t, x, r, h2, h3, h4⟩
  | if_icmp o off =>
    obtain ⟨h1, t, x, y, r, h2, h3, h4⟩ := ho
    cases o with
    | eq => exact xs_icmpeq F hd ⟨h1, t, x, y, r, h2, h3, h4⟩
    | ne => exact xs_icmpne F hd ⟨h1, t, x, y, r, h2, h3, h4⟩
    | lt => exact xs_icmplt F hd ⟨h1, t, x, y, r, h2, h3, h4⟩
    | ge => exact xs_icmpge F hd ⟨h1, t, x, y, r, h2, h3, h4⟩
    | gt => exact xs_icmpgt F hd ⟨h1, t, x, y, r, h2, h3, h4⟩
    | le => exact xs_icmple F hd ⟨h1, t, x, y, r, h2, h3, h4⟩
  | newarray ty =>
    obtain ⟨h1, n, r, h2, h3, h4, h5, h6, h7⟩ := ho
    cases ty with
    | int => exact xs_newarray_int F hd ⟨h1, n, r, h2, h3, h4, h5, h6, h7⟩
    | long => exact xs_newarray_long F hd ⟨h1, n, r, h2, h3, h4, h5, h6, h7⟩
    | _ => exact False.elim h7
  | multianewarray k d0 => exact xs_multi F hd ho
  | invokestatic k =>
    obtain ⟨h1, ho⟩ := ho
    rcases ho with ⟨h2, h3⟩ | ⟨Mj, as, ok, hlk, hst, hnp, ho⟩
    · exact xs_mmax F hd ⟨h1, h2, h3⟩
    · exact xs_static F hM hd h1 ok hlk hst hnp ho
  | invokevirtual k =>
    obtain ⟨h1, Mj, as, a, ci, fs, C, T, N, ty, ok, hlk, hin, hsel, hnp, hcl, hC, ha, ho⟩ := ho
    exact xs_virtual F hM hd h1 ok hlk hin hsel hnp hcl hC ha ho
  | invokespecial k =>
    obtain ⟨h1, ho⟩ := ho
    rcases ho with ⟨h2, h3⟩ | ⟨Mj, as, a, ok, hrt, hlk, hnm, hin, hnp, ho⟩
    · exact xs_objInit F hd ⟨h1, h2, h3⟩
    · exact xs_special F hM hd h1 ok hrt hlk hnm hin hnp ho
  | ireturn => exact hret _ _ _ _ _ _ _ _ (Or.inl rfl) hd ho
  | lreturn => exact hret _ _ _ _ _ _ _ _ (Or.inr (Or.inl rfl)) hd ho
  | return_ => exact hret _ _ _ _ _ _ _ _ (Or.inr (Or.inr rfl)) hd ho
  | _ => exact False.elim ho
end XC
section XD
variable {p : Program} {l : Launch} {e : Env} {R : Room} {s : State} {m : MethodId} {args : Array Value} {below : List Frame} {meth : Method} {c : Code} {M : xm_M} {d : Nat} {D : va_G} {dA : FieldType → ClassId} {ad : List Nat} {b B0 L : Nat} {xs : Nat → Int32}
/-- a method's own returns -/
theorem xs_ret_met (F : xm_F p R s m args meth c M d D dA b B0 L xs) (hr : meth.sig.returnType = xm_rt M) (hlocks : meth.locks = false) {Q : xm_Q} {call : xm_K} (i : Instr) (len pc : Nat) (lo st : List Value) (h : xm_H) (cn sn : Nat) (hi : i = .ireturn ∨ i = .lreturn ∨ i = .return_) (hd : decode (xm_by M) pc = .ok (i, len))
    (ho : xm_op L xs call M i len pc lo st h cn sn (xm_G p l e R s m args below meth c (MQ below (xm_Qc D dA b B0 ad Q) args s (xm_mc M) (xm_ms M) (xm_A B0)) D dA ad b B0 (xm_ml M)) Q) : xm_G p l e R s m args below meth c (MQ below (xm_Qc D dA b B0 ad Q) args s (xm_mc M) (xm_ms M) (xm_A B0)) D dA ad b B0 (xm_ml M) (pc, lo, st, h, cn, sn) := by
  rcases hi with rfl | rfl | rfl
  · obtain ⟨rfl, x, ty, rfl, hrt, hn, hq⟩ := ho
    intro ws H locs ls rst hc hs hI
    obtain ⟨iR, iP, iD, iS, iL, w1, r1, rfl, e1, e2⟩ := hI
    have e1 : w1 = .int x := e1
    have e2 : r1 = [] := e2
    subst e1; subst e2
    refine W.widen (k := xm_mc M) (n := xm_ms M) (by rw [← F.2.2.1.1]; exact hc) (by rw [← F.2.2.1.2]; exact hs) ?_
    exact W.zret F.1.1 F.1.2.1 (hr.trans hrt) hn (fun t ht hW => ⟨⟨some (.int x), some (.int x), h, ws, rfl, ⟨_, rfl, rfl⟩, hq, iR, by rw [ht]; exact iP, iD⟩, iS.F ht⟩) iS.2.2 hd hlocks
  · obtain ⟨rfl, x, rfl, hrt, hq⟩ := ho
    intro ws H locs ls rst hc hs hI
    obtain ⟨iR, iP, iD, iS, iL, w1, r1, rfl, e1, e2⟩ := hI
    have e1 : w1 = .long x := e1
    have e2 : r1 = [] := e2
    subst e1; subst e2
    refine W.widen (k := xm_mc M) (n := xm_ms M) (by rw [← F.2.2.1.1]; exact hc) (by rw [← F.2.2.1.2]; exact hs) ?_
    exact W.lret F.1.1 F.1.2.1 (hr.trans hrt) (fun t ht hW => ⟨⟨some (.long x), some (.long x), h, ws, rfl, ⟨_, rfl, rfl⟩, hq, iR, by rw [ht]; exact iP, iD⟩, iS.F ht⟩) iS.2.2 hd hlocks
  · obtain ⟨rfl, rfl, hrt, hq⟩ := ho
    intro ws H locs ls rst hc hs hI
    obtain ⟨iR, iP, iD, iS, iL, e2⟩ := hI
    have e2 : rst = [] := e2
    subst e2
    refine W.widen (k := xm_mc M) (n := xm_ms M) (by rw [← F.2.2.1.1]; exact hc) (by rw [← F.2.2.1.2]; exact hs) ?_
    exact W.vret F.1.1 F.1.2.1 (hr.trans hrt) (fun t ht hW => ⟨⟨none, none, h, ws, rfl, rfl, hq, iR, by rw [ht]; exact iP, iD⟩, iS.F ht⟩) iS.2.2 hd hlocks
end XD
theorem xm_lay_len {ad : List Nat} {b : Nat} : ∀ {as ras : List Value}, xm_st ad b as ras → (lg_sl ras).length = (xm_lay as).length
  | [], _, h => by rw [show _ = [] from h]; rfl
  | v :: vs, _, ⟨w, r, h1, h2, h3⟩ => by
    have ih := xm_lay_len h3
    have hcat := xm_v_cat h2
    rw [h1]
    unfold lg_sl at ih ⊢
    rw [List.flatMap_cons, List.length_append, ih, hcat]
    rw [show xm_lay (v :: vs) = if v.category = 2 then v :: .float 0 :: xm_lay vs else v :: xm_lay vs from rfl]
    split <;> simp <;> omega
theorem xm_lay_at {ad : List Nat} {b : Nat} : ∀ {as ras : List Value} (k i : Nat) {v : Value}, xm_st ad b as ras → (xm_lay as)[i]? = some v → (∀ z, v ≠ .float z) → ∃ w, xm_v ad b v w ∧ (k + i, w) ∈ lv_args k ras
  | [], _, k, i, v, _, h, _ => by simp [xm_lay] at h
  | a :: as, _, k, i, v, ⟨w, r, h1, h2, h3⟩, h, hv => by
    have hcat := xm_v_cat h2
    rw [h1]
    unfold xm_lay at h
    unfold lv_args
    rw [hcat]
    split at h
    · rename_i hc
      rw [if_pos hc]
      match i, h with
      | 0, h =>
        rw [List.getElem?_cons_zero] at h
        cases h
        exact ⟨w, h2, List.mem_cons_self⟩
      | 1, h =>
        rw [List.getElem?_cons_succ, List.getElem?_cons_zero] at h
        exact absurd (Option.some.inj h).symm (hv 0)
      | i + 2, h =>
        rw [List.getElem?_cons_succ, List.getElem?_cons_succ] at h
        obtain ⟨u, e1, e2⟩ := xm_lay_at (k + 2) i h3 h hv
        exact ⟨u, e1, List.mem_cons_of_mem _ (by rw [show k + (i + 2) = k + 2 + i by omega]; exact e2)⟩
    · rename_i hc
      rw [if_neg hc]
      match i, h with
      | 0, h =>
        rw [List.getElem?_cons_zero] at h
        cases h
        exact ⟨w, h2, List.mem_cons_self⟩
      | i + 1, h =>
        rw [List.getElem?_cons_succ] at h
        obtain ⟨u, e1, e2⟩ := xm_lay_at (k + 1) i h3 h hv
        exact ⟨u, e1, List.mem_cons_of_mem _ (by rw [show k + (i + 1) = k + 1 + i by omega]; exact e2)⟩
theorem xm_l_ent {ad : List Nat} {b n : Nat} {as ras : List Value} (h : xm_st ad b as ras) (hn : (xm_lay as).length ≤ n) : xm_l ad b n (xm_ent n as) ((lg_sl ras ++ List.replicate (n - (lg_sl ras).length) Slot.unset).toArray) := by
  have hl := xm_lay_len h
  obtain ⟨g1, g2, g3⟩ := lv_entry ras (n := n) (by rw [hl]; exact hn)
  refine ⟨g1, g2, ?_, fun i v hv => ?_⟩
  · unfold xm_ent
    rw [List.length_append, List.length_replicate]
    omega
  · have hfl : ∀ z, v ≠ .float z := fun z hz => by
      have := hv.2
      rw [hz] at this
      exact this
    have hlay : (xm_lay as)[i]? = some v := by
      have h1 := hv.1
      unfold xm_ent at h1
      by_cases hi : i < (xm_lay as).length
      · rw [List.getElem?_append_left hi] at h1
        exact h1
      · rw [List.getElem?_append_right (by omega)] at h1
        exact absurd (List.eq_of_mem_replicate (List.mem_of_getElem? h1)) (hfl 0)
    obtain ⟨w, e1, e2⟩ := xm_lay_at 0 i h hlay hfl
    rw [Nat.zero_add] at e2
    exact ⟨w, e1, g3 _ e2⟩
theorem xs_met (l : Launch) {D : va_G} {dA : FieldType → ClassId} {b B0 L : Nat} {xs : Nat → Int32} : ∀ (d : Nat) (M : xm_M) (as : List Value) (h : xm_H) (Q : xm_Q), xm_call L xs d M as h Q → xm_ok M → xm_Met l d D dA b B0 L xs M as h Q
  | 0, M, as, h, Q, hc, _ => False.elim hc
  | d + 1, M, as, h, Q, ⟨hlen, hc⟩, ok => by
    intro ws ras hR hD hst
    refine Met.ofW (cc := xm_by M) (maxL := xm_ml M) (ret := xm_rt M) ok.2.2.1 rfl ?_
    intro p e s m args below meth c s₁ B hml hv
    obtain ⟨rfl, hE, hP⟩ := hv
    have hts := atoms_spec (ws := xm_ws M) B.pre
    have hown : s.vm.findClass (xm_y M).cls = some m.cls := findClass_of_methodNamed B.named
    have F : xm_F p (headSpec (xm_ws M) (xm_rm (d + 1) M)).room s m ras.toArray meth c M d D dA b B0 L xs := ⟨⟨B.exec, B.bytes, hml, hown, fun w hw => hts w (List.mem_cons_of_mem _ hw)⟩, hE, ⟨rfl, rfl⟩, ⟨Nat.le_refl _, Nat.le_of_eq (by show 48 * d + 48 = 48 * (d + 1); omega)⟩, (name_of_methodNamed B.named B.method).1⟩
    have hX := hc _ (xs_cls (e := e) (l := l) (below := below) (ad := xm_ad ws) F (fun M' as' h' Q' => xs_met l d M' as' h' Q') (xs_ret_met F B.returns B.notSynchronized))
    rw [lg_entry_eq]
    exact hX ws s.heap [] _ [] (Nat.zero_le _) (Nat.zero_le _) ⟨xm_R_self hR, hP, hD, va_S.rf, xm_l_ent hst hlen, rfl⟩
end
section
/-! Forward rules of the small machine. (Printed by gen_rules.py.) -/
def xm_gf (own : String) (k ci j : Nat) : Prop := ∃ C T N ty, xm_cl ci C T N ty ∧ j < N ∧ xm_fk own k (T j)
def xm_pf (y : MethodName) (k ci j : Nat) (t : FieldType) : Prop := ∃ C T N ty, xm_cl ci C T N ty ∧ j < N ∧ xm_fk y.cls k (T j) ∧ ((T j).2.2.2 = false ∨ ((T j).2.2.2 = true ∧ (T j).1 = y.cls ∧ y.name = "<init>" ∧ Cond.fieldLink y.cls k (T j).1 (T j).2.1 (T j).2.2.1 ∈ tb_all)) ∧ ty j = t
def xm_nf (own : String) (k ci N : Nat) (fs : List Value) : Prop := ∃ C T ty, xm_cl ci C T N ty ∧ Cond.classLink own k C ∈ tb_all ∧ Cond.instantiable C N ∈ tb_all ∧ Cond.initialized C ∈ tb_all ∧ (∀ j, j < N → defaultValue (ty j) = vp_V fs j) ∧ fs.all xm_plain = true
def xm_cs (own : String) (k : Nat) (Mj : xm_M) (n : Nat) : Prop := xm_ok Mj ∧ xm_lk own k (xm_y Mj) ∧ Cond.static (xm_y Mj) ∈ tb_all ∧ xm_np (xm_y Mj) n
def xm_cv (own : String) (k : Nat) (Mj : xm_M) (n ci : Nat) : Prop := xm_ok Mj ∧ xm_lk own k (xm_y Mj) ∧ Cond.instanceMethod (xm_y Mj) ∈ tb_all ∧ Cond.selects (xm_y Mj).cls (xm_y Mj) (xm_y Mj) ∈ tb_all ∧ xm_np (xm_y Mj) n ∧ ∃ C T N ty, xm_cl ci C T N ty ∧ C = (xm_y Mj).cls
def xm_cn (own : String) (k : Nat) (Mj : xm_M) (n : Nat) : Prop := xm_ok Mj ∧ xm_rt Mj = none ∧ xm_lk own k (xm_y Mj) ∧ (xm_y Mj).name = "<init>" ∧ Cond.instanceMethod (xm_y Mj) ∈ tb_all ∧ xm_np (xm_y Mj) n
section XU
variable {L : Nat} {xs : Nat → Int32} {call : xm_K} {M : xm_M} {Q : xm_Q} {pc pc' : Nat} {lo lo' st st' : List Value} {h h' : xm_H} {c s c' s' : Nat}
theorem x_iconst {n : Int} {v : Int32} (d : decode (xm_by M) pc = .ok (.iconst n, 1)) (e : pc + 1 = pc') (hv : Int32.ofInt n = v) (k : xm_X L xs call M (pc', lo, .int v :: st, h, c, s) Q) : xm_X L xs call M (pc, lo, st, h, c, s) Q := by
  subst e; subst hv
  exact fun P hP => hP _ _ _ _ _ _ _ _ d ⟨rfl, k P hP⟩
theorem x_bipush {n : Int} {v : Int32} (d : decode (xm_by M) pc = .ok (.bipush n, 2)) (e : pc + 2 = pc') (hv : (Int8.ofInt n).toInt32 = v) (k : xm_X L xs call M (pc', lo, .int v :: st, h, c, s) Q) : xm_X L xs call M (pc, lo, st, h, c, s) Q := by
  subst e; subst hv
  exact fun P hP => hP _ _ _ _ _ _ _ _ d ⟨rfl, k P hP⟩
theorem x_sipush {n : Int} {v : Int32} (d : decode (xm_by M) pc = .ok (.sipush n, 3)) (e : pc + 3 = pc') (hv : (Int16.ofInt n).toInt32 = v) (k : xm_X L xs call M (pc', lo, .int v :: st, h, c, s) Q) : xm_X L xs call M (pc, lo, st, h, c, s) Q := by
  subst e; subst hv
  exact fun P hP => hP _ _ _ _ _ _ _ _ d ⟨rfl, k P hP⟩
theorem x_lconst {n : Fin 2} {v : Int64} (d : decode (xm_by M) pc = .ok (.lconst n, 1)) (e : pc + 1 = pc') (hv : Int64.ofNat (n : Nat) = v) (k : xm_X L xs call M (pc', lo, .long v :: st, h, c, s) Q) : xm_X L xs call M (pc, lo, st, h, c, s) Q := by
  subst e; subst hv
  exact fun P hP => hP _ _ _ _ _ _ _ _ d ⟨rfl, k P hP⟩
theorem x_ldc2_w {j : Nat} {x : Int64} (d : decode (xm_by M) pc = .ok (.ldc2_w j, 3)) (e : pc + 3 = pc') (hx : Cond.constantLong (xm_y M).cls j x ∈ tb_all) (k : xm_X L xs call M (pc', lo, .long x :: st, h, c, s) Q) : xm_X L xs call M (pc, lo, st, h, c, s) Q := by
  subst e
  exact fun P hP => hP _ _ _ _ _ _ _ _ d ⟨rfl, x, hx, k P hP⟩
theorem x_iload_n {n : Fin 4} {x : Int32} (d : decode (xm_by M) pc = .ok (.iload_n n, 1)) (e : pc + 1 = pc') (hl : lo[(n : Nat)]? = some (.int x)) (k : xm_X L xs call M (pc', lo, .int x :: st, h, c, s) Q) : xm_X L xs call M (pc, lo, st, h, c, s) Q := by
  subst e
  exact fun P hP => hP _ _ _ _ _ _ _ _ d ⟨rfl, x, hl, k P hP⟩
theorem x_lload_n {n : Fin 4} {x : Int64} {z : UInt32} (d : decode (xm_by M) pc = .ok (.lload_n n, 1)) (e : pc + 1 = pc') (hl : lo[(n : Nat)]? = some (.long x)) (hz : lo[(n : Nat) + 1]? = some (.float z)) (k : xm_X L xs call M (pc', lo, .long x :: st, h, c, s) Q) : xm_X L xs call M (pc, lo, st, h, c, s) Q := by
  subst e
  exact fun P hP => hP _ _ _ _ _ _ _ _ d ⟨rfl, x, z, hl, hz, k P hP⟩
theorem x_aload_n {n : Fin 4} {a : Nat} (d : decode (xm_by M) pc = .ok (.aload_n n, 1)) (e : pc + 1 = pc') (hl : lo[(n : Nat)]? = some (.ref a)) (k : xm_X L xs call M (pc', lo, .ref a :: st, h, c, s) Q) : xm_X L xs call M (pc, lo, st, h, c, s) Q := by
  subst e
  exact fun P hP => hP _ _ _ _ _ _ _ _ d ⟨rfl, _, hl, Or.inl ⟨a, rfl⟩, k P hP⟩
theorem x_sload_n {n : Fin 4} (d : decode (xm_by M) pc = .ok (.aload_n n, 1)) (e : pc + 1 = pc') (hl : lo[(n : Nat)]? = some (.retAddr 0)) (k : xm_X L xs call M (pc', lo, .retAddr 0 :: st, h, c, s) Q) : xm_X L xs call M (pc, lo, st, h, c, s) Q := by
  subst e
  exact fun P hP => hP _ _ _ _ _ _ _ _ d ⟨rfl, _, hl, Or.inr rfl, k P hP⟩
theorem x_istore_n {n : Fin 4} {x : Int32} (d : decode (xm_by M) pc = .ok (.istore_n n, 1)) (e : pc + 1 = pc') (hn : (n : Nat) < lo.length) (hl : lo.set (n : Nat) (.int x) = lo') (k : xm_X L xs call M (pc', lo', st, h, c, s) Q) : xm_X L xs call M (pc, lo, .int x :: st, h, c, s) Q := by
  subst e; subst hl
  exact fun P hP => hP _ _ _ _ _ _ _ _ d ⟨rfl, x, st, rfl, hn, k P hP⟩
theorem x_lstore_n {n : Fin 4} {x : Int64} (d : decode (xm_by M) pc = .ok (.lstore_n n, 1)) (e : pc + 1 = pc') (hn : (n : Nat) + 1 < lo.length) (hl : (lo.set (n : Nat) (.long x)).set ((n : Nat) + 1) (.float 0) = lo') (k : xm_X L xs call M (pc', lo', st, h, c, s) Q) : xm_X L xs call M (pc, lo, .long x :: st, h, c, s) Q := by
  subst e; subst hl
  exact fun P hP => hP _ _ _ _ _ _ _ _ d ⟨rfl, x, st, rfl, hn, k P hP⟩
theorem x_astore_n {n : Fin 4} {a : Nat} (d : decode (xm_by M) pc = .ok (.astore_n n, 1)) (e : pc + 1 = pc') (hn : (n : Nat) < lo.length) (hl : lo.set (n : Nat) (.ref a) = lo') (k : xm_X L xs call M (pc', lo', st, h, c, s) Q) : xm_X L xs call M (pc, lo, .ref a :: st, h, c, s) Q := by
  subst e; subst hl
  exact fun P hP => hP _ _ _ _ _ _ _ _ d ⟨rfl, a, st, rfl, hn, k P hP⟩
theorem x_iload {n : Nat} {x : Int32} (d : decode (xm_by M) pc = .ok (.iload n, 2)) (e : pc + 2 = pc') (hl : lo[n]? = some (.int x)) (k : xm_X L xs call M (pc', lo, .int x :: st, h, c, s) Q) : xm_X L xs call M (pc, lo, st, h, c, s) Q := by
  subst e
  exact fun P hP => hP _ _ _ _ _ _ _ _ d ⟨rfl, x, hl, k P hP⟩
theorem x_lload {n : Nat} {x : Int64} {z : UInt32} (d : decode (xm_by M) pc = .ok (.lload n, 2)) (e : pc + 2 = pc') (hl : lo[n]? = some (.long x)) (hz : lo[n + 1]? = some (.float z)) (k : xm_X L xs call M (pc', lo, .long x :: st, h, c, s) Q) : xm_X L xs call M (pc, lo, st, h, c, s) Q := by
  subst e
  exact fun P hP => hP _ _ _ _ _ _ _ _ d ⟨rfl, x, z, hl, hz, k P hP⟩
theorem x_aload {n : Nat} {a : Nat} (d : decode (xm_by M) pc = .ok (.aload n, 2)) (e : pc + 2 = pc') (hl : lo[n]? = some (.ref a)) (k : xm_X L xs call M (pc', lo, .ref a :: st, h, c, s) Q) : xm_X L xs call M (pc, lo, st, h, c, s) Q := by
  subst e
  exact fun P hP => hP _ _ _ _ _ _ _ _ d ⟨rfl, _, hl, Or.inl ⟨a, rfl⟩, k P hP⟩
theorem x_sload {n : Nat} (d : decode (xm_by M) pc = .ok (.aload n, 2)) (e : pc + 2 = pc') (hl : lo[n]? = some (.retAddr 0)) (k : xm_X L xs call M (pc', lo, .retAddr 0 :: st, h, c, s) Q) : xm_X L xs call M (pc, lo, st, h, c, s) Q := by
  subst e
  exact fun P hP => hP _ _ _ _ _ _ _ _ d ⟨rfl, _, hl, Or.inr rfl, k P hP⟩
theorem x_istore {n : Nat} {x : Int32} (d : decode (xm_by M) pc = .ok (.istore n, 2)) (e : pc + 2 = pc') (hn : n < lo.length) (hl : lo.set n (.int x) = lo') (k : xm_X L xs call M (pc', lo', st, h, c, s) Q) : xm_X L xs call M (pc, lo, .int x :: st, h, c, s) Q := by
  subst e; subst hl
  exact fun P hP => hP _ _ _ _ _ _ _ _ d ⟨rfl, x, st, rfl, hn, k P hP⟩
theorem x_lstore {n : Nat} {x : Int64} (d : decode (xm_by M) pc = .ok (.lstore n, 2)) (e : pc + 2 = pc') (hn : n + 1 < lo.length) (hl : (lo.set n (.long x)).set (n + 1) (.float 0) = lo') (k : xm_X L xs call M (pc', lo', st, h, c, s) Q) : xm_X L xs call M (pc, lo, .long x :: st, h, c, s) Q := by
  subst e; subst hl
  exact fun P hP => hP _ _ _ _ _ _ _ _ d ⟨rfl, x, st, rfl, hn, k P hP⟩
theorem x_astore {n : Nat} {a : Nat} (d : decode (xm_by M) pc = .ok (.astore n, 2)) (e : pc + 2 = pc') (hn : n < lo.length) (hl : lo.set n (.ref a) = lo') (k : xm_X L xs call M (pc', lo', st, h, c, s) Q) : xm_X L xs call M (pc, lo, .ref a :: st, h, c, s) Q := by
  subst e; subst hl
  exact fun P hP => hP _ _ _ _ _ _ _ _ d ⟨rfl, a, st, rfl, hn, k P hP⟩
theorem x_iinc {n : Nat} {j : Int} {x y : Int32} (d : decode (xm_by M) pc = .ok (.iinc n j, 3)) (e : pc + 3 = pc') (hx : lo[n]? = some (.int x)) (hy : x + Int32.ofInt j = y) (hl : lo.set n (.int y) = lo') (k : xm_X L xs call M (pc', lo', st, h, c, s) Q) : xm_X L xs call M (pc, lo, st, h, c, s) Q := by
  subst e; subst hy; subst hl
  exact fun P hP => hP _ _ _ _ _ _ _ _ d ⟨rfl, x, hx, k P hP⟩
theorem x_iadd {x : Int32} {y : Int32} {z : Int32} (d : decode (xm_by M) pc = .ok (.iadd, 1)) (e : pc + 1 = pc') (hz : (x + y) = z) (k : xm_X L xs call M (pc', lo, .int z :: st, h, c, s) Q) : xm_X L xs call M (pc, lo, .int y :: .int x :: st, h, c, s) Q := by
  subst e; subst hz
  exact fun P hP => hP _ _ _ _ _ _ _ _ d ⟨rfl, x, y, st, rfl, k P hP⟩
theorem x_isub {x : Int32} {y : Int32} {z : Int32} (d : decode (xm_by M) pc = .ok (.isub, 1)) (e : pc + 1 = pc') (hz : (x - y) = z) (k : xm_X L xs call M (pc', lo, .int z :: st, h, c, s) Q) : xm_X L xs call M (pc, lo, .int y :: .int x :: st, h, c, s) Q := by
  subst e; subst hz
  exact fun P hP => hP _ _ _ _ _ _ _ _ d ⟨rfl, x, y, st, rfl, k P hP⟩
theorem x_imul {x : Int32} {y : Int32} {z : Int32} (d : decode (xm_by M) pc = .ok (.imul, 1)) (e : pc + 1 = pc') (hz : (x * y) = z) (k : xm_X L xs call M (pc', lo, .int z :: st, h, c, s) Q) : xm_X L xs call M (pc, lo, .int y :: .int x :: st, h, c, s) Q := by
  subst e; subst hz
  exact fun P hP => hP _ _ _ _ _ _ _ _ d ⟨rfl, x, y, st, rfl, k P hP⟩
theorem x_iand {x : Int32} {y : Int32} {z : Int32} (d : decode (xm_by M) pc = .ok (.iand, 1)) (e : pc + 1 = pc') (hz : (x &&& y) = z) (k : xm_X L xs call M (pc', lo, .int z :: st, h, c, s) Q) : xm_X L xs call M (pc, lo, .int y :: .int x :: st, h, c, s) Q := by
  subst e; subst hz
  exact fun P hP => hP _ _ _ _ _ _ _ _ d ⟨rfl, x, y, st, rfl, k P hP⟩
theorem x_ladd {x : Int64} {y : Int64} {z : Int64} (d : decode (xm_by M) pc = .ok (.ladd, 1)) (e : pc + 1 = pc') (hz : (x + y) = z) (k : xm_X L xs call M (pc', lo, .long z :: st, h, c, s) Q) : xm_X L xs call M (pc, lo, .long y :: .long x :: st, h, c, s) Q := by
  subst e; subst hz
  exact fun P hP => hP _ _ _ _ _ _ _ _ d ⟨rfl, x, y, st, rfl, k P hP⟩
theorem x_lsub {x : Int64} {y : Int64} {z : Int64} (d : decode (xm_by M) pc = .ok (.lsub, 1)) (e : pc + 1 = pc') (hz : (x - y) = z) (k : xm_X L xs call M (pc', lo, .long z :: st, h, c, s) Q) : xm_X L xs call M (pc, lo, .long y :: .long x :: st, h, c, s) Q := by
  subst e; subst hz
  exact fun P hP => hP _ _ _ _ _ _ _ _ d ⟨rfl, x, y, st, rfl, k P hP⟩
theorem x_land {x : Int64} {y : Int64} {z : Int64} (d : decode (xm_by M) pc = .ok (.land, 1)) (e : pc + 1 = pc') (hz : (x &&& y) = z) (k : xm_X L xs call M (pc', lo, .long z :: st, h, c, s) Q) : xm_X L xs call M (pc, lo, .long y :: .long x :: st, h, c, s) Q := by
  subst e; subst hz
  exact fun P hP => hP _ _ _ _ _ _ _ _ d ⟨rfl, x, y, st, rfl, k P hP⟩
theorem x_lor {x : Int64} {y : Int64} {z : Int64} (d : decode (xm_by M) pc = .ok (.lor, 1)) (e : pc + 1 = pc') (hz : (x ||| y) = z) (k : xm_X L xs call M (pc', lo, .long z :: st, h, c, s) Q) : xm_X L xs call M (pc, lo, .long y :: .long x :: st, h, c, s) Q := by
  subst e; subst hz
  exact fun P hP => hP _ _ _ _ _ _ _ _ d ⟨rfl, x, y, st, rfl, k P hP⟩
theorem x_lxor {x : Int64} {y : Int64} {z : Int64} (d : decode (xm_by M) pc = .ok (.lxor, 1)) (e : pc + 1 = pc') (hz : (x ^^^ y) = z) (k : xm_X L xs call M (pc', lo, .long z :: st, h, c, s) Q) : xm_X L xs call M (pc, lo, .long y :: .long x :: st, h, c, s) Q := by
  subst e; subst hz
  exact fun P hP => hP _ _ _ _ _ _ _ _ d ⟨rfl, x, y, st, rfl, k P hP⟩
theorem x_lshl {x : Int64} {y : Int32} {z : Int64} (d : decode (xm_by M) pc = .ok (.lshl, 1)) (e : pc + 1 = pc') (hz : (x <<< (y.toInt64 &&& 63)) = z) (k : xm_X L xs call M (pc', lo, .long z :: st, h, c, s) Q) : xm_X L xs call M (pc, lo, .int y :: .long x :: st, h, c, s) Q := by
  subst e; subst hz
  exact fun P hP => hP _ _ _ _ _ _ _ _ d ⟨rfl, x, y, st, rfl, k P hP⟩
theorem x_lshr {x : Int64} {y : Int32} {z : Int64} (d : decode (xm_by M) pc = .ok (.lshr, 1)) (e : pc + 1 = pc') (hz : (x >>> (y.toInt64 &&& 63)) = z) (k : xm_X L xs call M (pc', lo, .long z :: st, h, c, s) Q) : xm_X L xs call M (pc, lo, .int y :: .long x :: st, h, c, s) Q := by
  subst e; subst hz
  exact fun P hP => hP _ _ _ _ _ _ _ _ d ⟨rfl, x, y, st, rfl, k P hP⟩
theorem x_lushr {x : Int64} {y : Int32} {z : Int64} (d : decode (xm_by M) pc = .ok (.lushr, 1)) (e : pc + 1 = pc') (hz : (x.toUInt64 >>> (y.toInt64.toUInt64 &&& Int64.toUInt64 63)).toInt64 = z) (k : xm_X L xs call M (pc', lo, .long z :: st, h, c, s) Q) : xm_X L xs call M (pc, lo, .int y :: .long x :: st, h, c, s) Q := by
  subst e; subst hz
  exact fun P hP => hP _ _ _ _ _ _ _ _ d ⟨rfl, x, y, st, rfl, k P hP⟩
theorem x_lcmp {x : Int64} {y : Int64} {z : Int32} (d : decode (xm_by M) pc = .ok (.lcmp, 1)) (e : pc + 1 = pc') (hz : (lg_cmp x y) = z) (k : xm_X L xs call M (pc', lo, .int z :: st, h, c, s) Q) : xm_X L xs call M (pc, lo, .long y :: .long x :: st, h, c, s) Q := by
  subst e; subst hz
  exact fun P hP => hP _ _ _ _ _ _ _ _ d ⟨rfl, x, y, st, rfl, k P hP⟩
theorem x_i2l {x : Int32} {z : Int64} (d : decode (xm_by M) pc = .ok (.i2l, 1)) (e : pc + 1 = pc') (hz : x.toInt64 = z) (k : xm_X L xs call M (pc', lo, .long z :: st, h, c, s) Q) : xm_X L xs call M (pc, lo, .int x :: st, h, c, s) Q := by
  subst e; subst hz
  exact fun P hP => hP _ _ _ _ _ _ _ _ d ⟨rfl, x, st, rfl, k P hP⟩
theorem x_l2i {x : Int64} {z : Int32} (d : decode (xm_by M) pc = .ok (.l2i, 1)) (e : pc + 1 = pc') (hz : x.toInt32 = z) (k : xm_X L xs call M (pc', lo, .int z :: st, h, c, s) Q) : xm_X L xs call M (pc, lo, .long x :: st, h, c, s) Q := by
  subst e; subst hz
  exact fun P hP => hP _ _ _ _ _ _ _ _ d ⟨rfl, x, st, rfl, k P hP⟩
theorem x_dup {v : Value} (d : decode (xm_by M) pc = .ok (.dup, 1)) (e : pc + 1 = pc') (hv : v.category = 1) (k : xm_X L xs call M (pc', lo, v :: v :: st, h, c, s) Q) : xm_X L xs call M (pc, lo, v :: st, h, c, s) Q := by
  subst e
  exact fun P hP => hP _ _ _ _ _ _ _ _ d ⟨rfl, v, st, rfl, hv, k P hP⟩
theorem x_pop {v : Value} (d : decode (xm_by M) pc = .ok (.pop, 1)) (e : pc + 1 = pc') (hv : v.category = 1) (k : xm_X L xs call M (pc', lo, st, h, c, s) Q) : xm_X L xs call M (pc, lo, v :: st, h, c, s) Q := by
  subst e
  exact fun P hP => hP _ _ _ _ _ _ _ _ d ⟨rfl, v, st, rfl, hv, k P hP⟩
theorem x_ifeq {x : Int32} {off : Int} {t : Nat} (d : decode (xm_by M) pc = .ok (.ifCond .eq off, 3)) (e : pc + 3 = pc') (ht : (pc : Int) + off = (t : Int)) (kt : x = 0 → xm_X L xs call M (t, lo, st, h, c, s) Q) (kf : ¬ x = 0 → xm_X L xs call M (pc', lo, st, h, c, s) Q) : xm_X L xs call M (pc, lo, .int x :: st, h, c, s) Q := by
  subst e
  exact fun P hP => hP _ _ _ _ _ _ _ _ d ⟨rfl, t, x, st, ht, rfl, fun q => kt q P hP, fun q => kf q P hP⟩
theorem x_ifne {x : Int32} {off : Int} {t : Nat} (d : decode (xm_by M) pc = .ok (.ifCond .ne off, 3)) (e : pc + 3 = pc') (ht : (pc : Int) + off = (t : Int)) (kt : ¬ x = 0 → xm_X L xs call M (t, lo, st, h, c, s) Q) (kf : x = 0 → xm_X L xs call M (pc', lo, st, h, c, s) Q) : xm_X L xs call M (pc, lo, .int x :: st, h, c, s) Q := by
  subst e
  exact fun P hP => hP _ _ _ _ _ _ _ _ d ⟨rfl, t, x, st, ht, rfl, fun q => kt q P hP, fun q => kf q P hP⟩
theorem x_iflt {x : Int32} {off : Int} {t : Nat} (d : decode (xm_by M) pc = .ok (.ifCond .lt off, 3)) (e : pc + 3 = pc') (ht : (pc : Int) + off = (t : Int)) (kt : x < 0 → xm_X L xs call M (t, lo, st, h, c, s) Q) (kf : ¬ x < 0 → xm_X L xs call M (pc', lo, st, h, c, s) Q) : xm_X L xs call M (pc, lo, .int x :: st, h, c, s) Q := by
  subst e
  exact fun P hP => hP _ _ _ _ _ _ _ _ d ⟨rfl, t, x, st, ht, rfl, fun q => kt q P hP, fun q => kf q P hP⟩
theorem x_ifge {x : Int32} {off : Int} {t : Nat} (d : decode (xm_by M) pc = .ok (.ifCond .ge off, 3)) (e : pc + 3 = pc') (ht : (pc : Int) + off = (t : Int)) (kt : 0 ≤ x → xm_X L xs call M (t, lo, st, h, c, s) Q) (kf : ¬ 0 ≤ x → xm_X L xs call M (pc', lo, st, h, c, s) Q) : xm_X L xs call M (pc, lo, .int x :: st, h, c, s) Q := by
  subst e
  exact fun P hP => hP _ _ _ _ _ _ _ _ d ⟨rfl, t, x, st, ht, rfl, fun q => kt q P hP, fun q => kf q P hP⟩
theorem x_ifgt {x : Int32} {off : Int} {t : Nat} (d : decode (xm_by M) pc = .ok (.ifCond .gt off, 3)) (e : pc + 3 = pc') (ht : (pc : Int) + off = (t : Int)) (kt : 0 < x → xm_X L xs call M (t, lo, st, h, c, s) Q) (kf : ¬ 0 < x → xm_X L xs call M (pc', lo, st, h, c, s) Q) : xm_X L xs call M (pc, lo, .int x :: st, h, c, s) Q := by
  subst e
  exact fun P hP => hP _ _ _ _ _ _ _ _ d ⟨rfl, t, x, st, ht, rfl, fun q => kt q P hP, fun q => kf q P hP⟩
theorem x_ifle {x : Int32} {off : Int} {t : Nat} (d : decode (xm_by M) pc = .ok (.ifCond .le off, 3)) (e : pc + 3 = pc') (ht : (pc : Int) + off = (t : Int)) (kt : x ≤ 0 → xm_X L xs call M (t, lo, st, h, c, s) Q) (kf : ¬ x ≤ 0 → xm_X L xs call M (pc', lo, st, h, c, s) Q) : xm_X L xs call M (pc, lo, .int x :: st, h, c, s) Q := by
  subst e
  exact fun P hP => hP _ _ _ _ _ _ _ _ d ⟨rfl, t, x, st, ht, rfl, fun q => kt q P hP, fun q => kf q P hP⟩
theorem x_icmpeq {x y : Int32} {off : Int} {t : Nat} (d : decode (xm_by M) pc = .ok (.if_icmp .eq off, 3)) (e : pc + 3 = pc') (ht : (pc : Int) + off = (t : Int)) (kt : x = y → xm_X L xs call M (t, lo, st, h, c, s) Q) (kf : ¬ x = y → xm_X L xs call M (pc', lo, st, h, c, s) Q) : xm_X L xs call M (pc, lo, .int y :: .int x :: st, h, c, s) Q := by
  subst e
  exact fun P hP => hP _ _ _ _ _ _ _ _ d ⟨rfl, t, x, y, st, ht, rfl, fun q => kt q P hP, fun q => kf q P hP⟩
theorem x_icmpne {x y : Int32} {off : Int} {t : Nat} (d : decode (xm_by M) pc = .ok (.if_icmp .ne off, 3)) (e : pc + 3 = pc') (ht : (pc : Int) + off = (t : Int)) (kt : ¬ x = y → xm_X L xs call M (t, lo, st, h, c, s) Q) (kf : x = y → xm_X L xs call M (pc', lo, st, h, c, s) Q) : xm_X L xs call M (pc, lo, .int y :: .int x :: st, h, c, s) Q := by
  subst e
  exact fun P hP => hP _ _ _ _ _ _ _ _ d ⟨rfl, t, x, y, st, ht, rfl, fun q => kt q P hP, fun q => kf q P hP⟩
theorem x_icmplt {x y : Int32} {off : Int} {t : Nat} (d : decode (xm_by M) pc = .ok (.if_icmp .lt off, 3)) (e : pc + 3 = pc') (ht : (pc : Int) + off = (t : Int)) (kt : x < y → xm_X L xs call M (t, lo, st, h, c, s) Q) (kf : ¬ x < y → xm_X L xs call M (pc', lo, st, h, c, s) Q) : xm_X L xs call M (pc, lo, .int y :: .int x :: st, h, c, s) Q := by
  subst e
  exact fun P hP => hP _ _ _ _ _ _ _ _ d ⟨rfl, t, x, y, st, ht, rfl, fun q => kt q P hP, fun q => kf q P hP⟩
theorem x_icmpge {x y : Int32} {off : Int} {t : Nat} (d : decode (xm_by M) pc = .ok (.if_icmp .ge off, 3)) (e : pc + 3 = pc') (ht : (pc : Int) + off = (t : Int)) (kt : y ≤ x → xm_X L xs call M (t, lo, st, h, c, s) Q) (kf : ¬ y ≤ x → xm_X L xs call M (pc', lo, st, h, c, s) Q) : xm_X L xs call M (pc, lo, .int y :: .int x :: st, h, c, s) Q := by
  subst e
  exact fun P hP => hP _ _ _ _ _ _ _ _ d ⟨rfl, t, x, y, st, ht, rfl, fun q => kt q P hP, fun q => kf q P hP⟩
theorem x_icmpgt {x y : Int32} {off : Int} {t : Nat} (d : decode (xm_by M) pc = .ok (.if_icmp .gt off, 3)) (e : pc + 3 = pc') (ht : (pc : Int) + off = (t : Int)) (kt : y < x → xm_X L xs call M (t, lo, st, h, c, s) Q) (kf : ¬ y < x → xm_X L xs call M (pc', lo, st, h, c, s) Q) : xm_X L xs call M (pc, lo, .int y :: .int x :: st, h, c, s) Q := by
  subst e
  exact fun P hP => hP _ _ _ _ _ _ _ _ d ⟨rfl, t, x, y, st, ht, rfl, fun q => kt q P hP, fun q => kf q P hP⟩
theorem x_icmple {x y : Int32} {off : Int} {t : Nat} (d : decode (xm_by M) pc = .ok (.if_icmp .le off, 3)) (e : pc + 3 = pc') (ht : (pc : Int) + off = (t : Int)) (kt : x ≤ y → xm_X L xs call M (t, lo, st, h, c, s) Q) (kf : ¬ x ≤ y → xm_X L xs call M (pc', lo, st, h, c, s) Q) : xm_X L xs call M (pc, lo, .int y :: .int x :: st, h, c, s) Q := by
  subst e
  exact fun P hP => hP _ _ _ _ _ _ _ _ d ⟨rfl, t, x, y, st, ht, rfl, fun q => kt q P hP, fun q => kf q P hP⟩
theorem x_goto {off : Int} {t : Nat} (d : decode (xm_by M) pc = .ok (.goto off, 3)) (ht : (pc : Int) + off = (t : Int)) (k : xm_X L xs call M (t, lo, st, h, c, s) Q) : xm_X L xs call M (pc, lo, st, h, c, s) Q := fun P hP => hP _ _ _ _ _ _ _ _ d ⟨rfl, t, ht, k P hP⟩
theorem x_tsOut {x : Int32} {d0 l0 h0 : Int} {offs : Array Int} {len t : Nat} (d : decode (xm_by M) pc = .ok (.tableswitch d0 l0 h0 offs, len)) (hx : x.toInt < l0 ∨ h0 < x.toInt) (ht : (pc : Int) + d0 = (t : Int)) (k : xm_X L xs call M (t, lo, st, h, c, s) Q) : xm_X L xs call M (pc, lo, .int x :: st, h, c, s) Q := fun P hP => hP _ _ _ _ _ _ _ _ d ⟨x, st, rfl, t, Or.inl ⟨hx, ht⟩, k P hP⟩
theorem x_tsIn {x : Int32} {d0 l0 h0 off : Int} {offs : Array Int} {len t : Nat} (d : decode (xm_by M) pc = .ok (.tableswitch d0 l0 h0 offs, len)) (h1 : ¬ x.toInt < l0) (h2 : ¬ h0 < x.toInt) (ho : offs[(x.toInt - l0).toNat]? = some off) (ht : (pc : Int) + off = (t : Int)) (k : xm_X L xs call M (t, lo, st, h, c, s) Q) : xm_X L xs call M (pc, lo, .int x :: st, h, c, s) Q := fun P hP => hP _ _ _ _ _ _ _ _ d ⟨x, st, rfl, t, Or.inr ⟨h1, h2, off, ho, ht⟩, k P hP⟩
theorem x_slen {n : Int32} (d : decode (xm_by M) pc = .ok (.arraylength, 1)) (e : pc + 1 = pc') (hn : Int32.ofNat L = n) (k : xm_X L xs call M (pc', lo, .int n :: st, h, c, s) Q) : xm_X L xs call M (pc, lo, .retAddr 0 :: st, h, c, s) Q := by
  subst e; subst hn
  exact fun P hP => hP _ _ _ _ _ _ _ _ d ⟨rfl, st, rfl, k P hP⟩
theorem x_sld {i v : Int32} (d : decode (xm_by M) pc = .ok (.iaload, 1)) (e : pc + 1 = pc') (hi : vp_in i L) (hv : xs i.toNatClampNeg = v) (k : xm_X L xs call M (pc', lo, .int v :: st, h, c, s) Q) : xm_X L xs call M (pc, lo, .int i :: .retAddr 0 :: st, h, c, s) Q := by
  subst e; subst hv
  exact fun P hP => hP _ _ _ _ _ _ _ _ d ⟨rfl, Or.inl ⟨i, st, rfl, hi, k P hP⟩⟩
theorem x_iaload {i v : Int32} {a n : Nat} {f : Nat → Int32} (d : decode (xm_by M) pc = .ok (.iaload, 1)) (e : pc + 1 = pc') (ha : h[a]? = some (.inl (.int, n, .inl f))) (hi : vp_in i n) (hv : f i.toNatClampNeg = v) (k : xm_X L xs call M (pc', lo, .int v :: st, h, c, s) Q) : xm_X L xs call M (pc, lo, .int i :: .ref a :: st, h, c, s) Q := by
  subst e; subst hv
  exact fun P hP => hP _ _ _ _ _ _ _ _ d ⟨rfl, Or.inr ⟨i, a, st, n, f, rfl, ha, hi, k P hP⟩⟩
theorem x_laload {i : Int32} {v : Int64} {a n : Nat} {f : Nat → Int64} (d : decode (xm_by M) pc = .ok (.laload, 1)) (e : pc + 1 = pc') (ha : h[a]? = some (.inl (.long, n, .inr (.inl f)))) (hi : vp_in i n) (hv : f i.toNatClampNeg = v) (k : xm_X L xs call M (pc', lo, .long v :: st, h, c, s) Q) : xm_X L xs call M (pc, lo, .int i :: .ref a :: st, h, c, s) Q := by
  subst e; subst hv
  exact fun P hP => hP _ _ _ _ _ _ _ _ d ⟨rfl, i, a, st, n, f, rfl, ha, hi, k P hP⟩
theorem x_aaload {i : Int32} {a n q : Nat} {ty : FieldType} {f : Nat → Option Nat} (d : decode (xm_by M) pc = .ok (.aaload, 1)) (e : pc + 1 = pc') (ha : h[a]? = some (.inl (ty, n, .inr (.inr (.inr (.inr f)))))) (hty : ty = .array .int ∨ ty = .object tb_rc) (hi : vp_in i n) (hv : f i.toNatClampNeg = some q) (k : xm_X L xs call M (pc', lo, .ref q :: st, h, c, s) Q) : xm_X L xs call M (pc, lo, .int i :: .ref a :: st, h, c, s) Q := by
  subst e
  exact fun P hP => hP _ _ _ _ _ _ _ _ d ⟨rfl, i, a, st, ty, n, f, q, rfl, ha, hty, hi, hv, k P hP⟩
theorem x_iastore {x i : Int32} {a n : Nat} {f : Nat → Int32} (d : decode (xm_by M) pc = .ok (.iastore, 1)) (e : pc + 1 = pc') (ha : h[a]? = some (.inl (.int, n, .inl f))) (hi : vp_in i n) (hh : h.set a (.inl (.int, n, .inl (upd f i.toNatClampNeg x))) = h') (k : xm_X L xs call M (pc', lo, st, h', c, s) Q) : xm_X L xs call M (pc, lo, .int x :: .int i :: .ref a :: st, h, c, s) Q := by
  subst e; subst hh
  exact fun P hP => hP _ _ _ _ _ _ _ _ d ⟨rfl, x, i, a, st, n, f, rfl, ha, hi, k P hP⟩
theorem x_lastore {x : Int64} {i : Int32} {a n : Nat} {f : Nat → Int64} (d : decode (xm_by M) pc = .ok (.lastore, 1)) (e : pc + 1 = pc') (ha : h[a]? = some (.inl (.long, n, .inr (.inl f)))) (hi : vp_in i n) (hh : h.set a (.inl (.long, n, .inr (.inl (vp_updL f i.toNatClampNeg x)))) = h') (k : xm_X L xs call M (pc', lo, st, h', c, s) Q) : xm_X L xs call M (pc, lo, .long x :: .int i :: .ref a :: st, h, c, s) Q := by
  subst e; subst hh
  exact fun P hP => hP _ _ _ _ _ _ _ _ d ⟨rfl, x, i, a, st, n, f, rfl, ha, hi, k P hP⟩
theorem x_aastore {i : Int32} {v a ci n : Nat} {fs : List Value} {f : Nat → Option Nat} (d : decode (xm_by M) pc = .ok (.aastore, 1)) (e : pc + 1 = pc') (ha : h[a]? = some (.inl (.object tb_rc, n, .inr (.inr (.inr (.inr f)))))) (hc : ∃ q, vwCl[ci]? = some q ∧ q.1 = tb_rc) (hv : h[v]? = some (.inr (ci, fs))) (hi : vp_in i n) (hh : h.set a (.inl (.object tb_rc, n, .inr (.inr (.inr (.inr (va_up f i.toNatClampNeg (some v))))))) = h') (k : xm_X L xs call M (pc', lo, st, h', c, s) Q) : xm_X L xs call M (pc, lo, .ref v :: .int i :: .ref a :: st, h, c, s) Q := by
  subst e; subst hh
  exact fun P hP => hP _ _ _ _ _ _ _ _ d ⟨rfl, v, i, a, st, ci, fs, n, f, rfl, ha, hc, hv, hi, k P hP⟩
theorem x_getfield {j ci a i : Nat} {fs : List Value} {v : Value} (d : decode (xm_by M) pc = .ok (.getfield j, 3)) (e : pc + 3 = pc') (hf : xm_gf (xm_y M).cls j ci i) (ha : h[a]? = some (.inr (ci, fs))) (hv : fs[i]? = some v) (k : xm_X L xs call M (pc', lo, v :: st, h, c, s) Q) : xm_X L xs call M (pc, lo, .ref a :: st, h, c, s) Q := by
  subst e
  obtain ⟨C, T, N, ty, h1, h2, h3⟩ := hf
  exact fun P hP => hP _ _ _ _ _ _ _ _ d ⟨rfl, a, st, ci, i, fs, v, C, T, N, ty, h1, h2, h3, rfl, ha, hv, k P hP⟩
theorem x_putfield {j ci a i : Nat} {fs : List Value} {v : Value} {t : FieldType} (d : decode (xm_by M) pc = .ok (.putfield j, 3)) (e : pc + 3 = pc') (hf : xm_pf (xm_y M) j ci i t) (ha : h[a]? = some (.inr (ci, fs))) (hl : i < fs.length) (hn : narrow t v = v) (hfit : fits t v = true) (hh : h.set a (.inr (ci, fs.set i v)) = h') (k : xm_X L xs call M (pc', lo, st, h', c, s) Q) : xm_X L xs call M (pc, lo, v :: .ref a :: st, h, c, s) Q := by
  subst e; subst hh
  obtain ⟨C, T, N, ty, h1, h2, h3, h4, h5⟩ := hf
  subst h5
  exact fun P hP => hP _ _ _ _ _ _ _ _ d ⟨rfl, v, a, st, ci, i, fs, C, T, N, ty, h1, h2, h3, h4, rfl, ha, hl, hn, hfit, k P hP⟩
theorem x_newarray_int {n : Int32} {N a : Nat} (d : decode (xm_by M) pc = .ok (.newarray .int, 2)) (e : pc + 2 = pc') (hw : Cond.arrayClass .int ∈ tb_all) (hn : ¬ n < 0) (hN : n.toNatClampNeg = N) (hb : N ≤ 65536) (hc : c + 1 ≤ xm_mc M) (hs : s + N ≤ xm_ms M) (ha : h.length = a) (hh : h ++ [.inl (.int, N, .inl (fun _ => 0))] = h') (hc' : c + 1 = c') (hs' : s + N = s') (k : xm_X L xs call M (pc', lo, .ref a :: st, h', c', s') Q) : xm_X L xs call M (pc, lo, .int n :: st, h, c, s) Q := by
  subst e; subst hN; subst ha; subst hh; subst hc'; subst hs'
  exact fun P hP => hP _ _ _ _ _ _ _ _ d ⟨rfl, n, st, rfl, hn, hb, hc, hs, hw, k P hP⟩
theorem x_newarray_long {n : Int32} {N a : Nat} (d : decode (xm_by M) pc = .ok (.newarray .long, 2)) (e : pc + 2 = pc') (hw : Cond.arrayClass .long ∈ tb_all) (hn : ¬ n < 0) (hN : n.toNatClampNeg = N) (hb : N ≤ 65536) (hc : c + 1 ≤ xm_mc M) (hs : s + N ≤ xm_ms M) (ha : h.length = a) (hh : h ++ [.inl (.long, N, .inr (.inl (fun _ => 0)))] = h') (hc' : c + 1 = c') (hs' : s + N = s') (k : xm_X L xs call M (pc', lo, .ref a :: st, h', c', s') Q) : xm_X L xs call M (pc, lo, .int n :: st, h, c, s) Q := by
  subst e; subst hN; subst ha; subst hh; subst hc'; subst hs'
  exact fun P hP => hP _ _ _ _ _ _ _ _ d ⟨rfl, n, st, rfl, hn, hb, hc, hs, hw, k P hP⟩
theorem x_anewarray {j : Nat} {n : Int32} {N a : Nat} (d : decode (xm_by M) pc = .ok (.anewarray j, 3)) (e : pc + 3 = pc') (hw : Cond.classLink (xm_y M).cls j tb_rc ∈ tb_all) (hn : ¬ n < 0) (hN : n.toNatClampNeg = N) (hb : N ≤ 65536) (hc : c + 1 ≤ xm_mc M) (hs : s + N ≤ xm_ms M) (ha : h.length = a) (hh : h ++ [.inl (.object tb_rc, N, .inr (.inr (.inr (.inr (fun _ => none)))))] = h') (hc' : c + 1 = c') (hs' : s + N = s') (k : xm_X L xs call M (pc', lo, .ref a :: st, h', c', s') Q) : xm_X L xs call M (pc, lo, .int n :: st, h, c, s) Q := by
  subst e; subst hN; subst ha; subst hh; subst hc'; subst hs'
  exact fun P hP => hP _ _ _ _ _ _ _ _ d ⟨rfl, n, st, hw, rfl, hn, hb, hc, hs, k P hP⟩
theorem x_multi {j a : Nat} (d : decode (xm_by M) pc = .ok (.multianewarray j 2, 4)) (e : pc + 4 = pc') (hw : Cond.classLink (xm_y M).cls j "[[I" ∈ tb_all) (hc : c + 10 ≤ xm_mc M) (hs : s + 90 ≤ xm_ms M) (ha : h.length = a) (hh : h ++ .inl (.array .int, 9, .inr (.inr (.inr (.inr (fun j => some (a + 1 + j)))))) :: List.replicate 9 (.inl (.int, 9, .inl (fun _ => 0))) = h') (hc' : c + 10 = c') (hs' : s + 90 = s') (k : xm_X L xs call M (pc', lo, .ref a :: st, h', c', s') Q) : xm_X L xs call M (pc, lo, .int 9 :: .int 9 :: st, h, c, s) Q := by
  subst e; subst ha; subst hh; subst hc'; subst hs'
  exact fun P hP => hP _ _ _ _ _ _ _ _ d ⟨rfl, st, rfl, hw, rfl, hc, hs, k P hP⟩
theorem x_new {j ci N a : Nat} {fs : List Value} (d : decode (xm_by M) pc = .ok (.new j, 3)) (e : pc + 3 = pc') (hf : xm_nf (xm_y M).cls j ci N fs) (hc : c + 1 ≤ xm_mc M) (hs : s + N ≤ xm_ms M) (ha : h.length = a) (hh : h ++ [.inr (ci, fs)] = h') (hc' : c + 1 = c') (hs' : s + N = s') (k : xm_X L xs call M (pc', lo, .ref a :: st, h', c', s') Q) : xm_X L xs call M (pc, lo, st, h, c, s) Q := by
  subst e; subst ha; subst hh; subst hc'; subst hs'
  obtain ⟨C, T, ty, h1, h2, h3, h4, h5, h6⟩ := hf
  exact fun P hP => hP _ _ _ _ _ _ _ _ d ⟨rfl, ci, C, T, N, ty, fs, h1, h2, h3, h4, h5, h6, hc, hs, k P hP⟩
theorem x_objInit {j a : Nat} (d : decode (xm_by M) pc = .ok (.invokespecial j, 3)) (e : pc + 3 = pc') (hf : xm_oi (xm_y M).cls j) (hr : xm_sum st ≤ 8) (k : xm_X L xs call M (pc', lo, st, h, c, s) Q) : xm_X L xs call M (pc, lo, .ref a :: st, h, c, s) Q := by
  subst e
  exact fun P hP => hP _ _ _ _ _ _ _ _ d ⟨rfl, Or.inl ⟨hf, a, st, rfl, hr, k P hP⟩⟩
theorem x_mmax {j : Nat} {x y z : Int32} (d : decode (xm_by M) pc = .ok (.invokestatic j, 3)) (e : pc + 3 = pc') (hf : xm_mx (xm_y M).cls j) (hr : xm_sum st ≤ 8) (hz : (if x < y then y else x) = z) (k : xm_X L xs call M (pc', lo, .int z :: st, h, c, s) Q) : xm_X L xs call M (pc, lo, .int y :: .int x :: st, h, c, s) Q := by
  subst e; subst hz
  exact fun P hP => hP _ _ _ _ _ _ _ _ d ⟨rfl, Or.inl ⟨hf, x, y, st, rfl, hr, k P hP⟩⟩
theorem x_static {j n : Nat} {Mj : xm_M} {as r : List Value} {v : Option Value} (d : decode (xm_by M) pc = .ok (.invokestatic j, 3)) (e : pc + 3 = pc') (hf : xm_cs (xm_y M).cls j Mj n) (hst : st = as.reverse ++ r) (hn : as.length = n) (hr : xm_sum r ≤ 8) (hc : c + xm_mc Mj ≤ xm_mc M) (hs : s + xm_ms Mj ≤ xm_ms M) (hcall : ∀ Q', Q' v h' → call Mj as h Q') (hst' : v.toList ++ r = st') (hc' : c + xm_mc Mj = c') (hs' : s + xm_ms Mj = s') (k : xm_X L xs call M (pc', lo, st', h', c', s') Q) : xm_X L xs call M (pc, lo, st, h, c, s) Q := by
  subst e; subst hst; subst hn; subst hst'; subst hc'; subst hs'
  exact fun P hP => hP _ _ _ _ _ _ _ _ d ⟨rfl, Or.inr ⟨Mj, as, hf.1, hf.2.1, hf.2.2.1, hf.2.2.2, r, rfl, hr, hc, hs, hcall _ (k P hP)⟩⟩
theorem x_virtual {j n ci a : Nat} {Mj : xm_M} {as r fs : List Value} {v : Option Value} (d : decode (xm_by M) pc = .ok (.invokevirtual j, 3)) (e : pc + 3 = pc') (hf : xm_cv (xm_y M).cls j Mj n ci) (ha : h[a]? = some (.inr (ci, fs))) (hst : st = (Value.ref a :: as).reverse ++ r) (hn : as.length = n) (hr : xm_sum r ≤ 8) (hc : c + xm_mc Mj ≤ xm_mc M) (hs : s + xm_ms Mj ≤ xm_ms M) (hcall : ∀ Q', Q' v h' → call Mj (.ref a :: as) h Q') (hst' : v.toList ++ r = st') (hc' : c + xm_mc Mj = c') (hs' : s + xm_ms Mj = s') (k : xm_X L xs call M (pc', lo, st', h', c', s') Q) : xm_X L xs call M (pc, lo, st, h, c, s) Q := by
  subst e; subst hst; subst hn; subst hst'; subst hc'; subst hs'
  obtain ⟨h1, h2, h3, h4, h5, C, T, N, ty, h6, h7⟩ := hf
  exact fun P hP => hP _ _ _ _ _ _ _ _ d ⟨rfl, Mj, as, a, ci, fs, C, T, N, ty, h1, h2, h3, h4, h5, h6, h7, ha, r, rfl, hr, hc, hs, hcall _ (k P hP)⟩
theorem x_special {j n a : Nat} {Mj : xm_M} {as r : List Value} {v : Option Value} (d : decode (xm_by M) pc = .ok (.invokespecial j, 3)) (e : pc + 3 = pc') (hf : xm_cn (xm_y M).cls j Mj n) (hst : st = (Value.ref a :: as).reverse ++ r) (hn : as.length = n) (hr : xm_sum r ≤ 8) (hc : c + xm_mc Mj ≤ xm_mc M) (hs : s + xm_ms Mj ≤ xm_ms M) (hcall : ∀ Q', Q' v h' → call Mj (.ref a :: as) h Q') (hst' : v.toList ++ r = st') (hc' : c + xm_mc Mj = c') (hs' : s + xm_ms Mj = s') (k : xm_X L xs call M (pc', lo, st', h', c', s') Q) : xm_X L xs call M (pc, lo, st, h, c, s) Q := by
  subst e; subst hst; subst hn; subst hst'; subst hc'; subst hs'
  exact fun P hP => hP _ _ _ _ _ _ _ _ d ⟨rfl, Or.inr ⟨Mj, as, a, hf.1, hf.2.1, hf.2.2.1, hf.2.2.2.1, hf.2.2.2.2.1, hf.2.2.2.2.2, r, rfl, hr, hc, hs, hcall _ (k P hP)⟩⟩
theorem x_ireturn {x : Int32} {ty : FieldType} (d : decode (xm_by M) pc = .ok (.ireturn, 1)) (hrt : xm_rt M = some ty) (hn : narrow ty (.int x) = .int x) (hq : Q (some (.int x)) h) : xm_X L xs call M (pc, lo, [.int x], h, c, s) Q := fun P hP => hP _ _ _ _ _ _ _ _ d ⟨rfl, x, ty, rfl, hrt, hn, hq⟩
theorem x_lreturn {x : Int64} (d : decode (xm_by M) pc = .ok (.lreturn, 1)) (hrt : xm_rt M = some .long) (hq : Q (some (.long x)) h) : xm_X L xs call M (pc, lo, [.long x], h, c, s) Q := fun P hP => hP _ _ _ _ _ _ _ _ d ⟨rfl, x, rfl, hrt, hq⟩
theorem x_return (d : decode (xm_by M) pc = .ok (.return_, 1)) (hrt : xm_rt M = none) (hq : Q none h) : xm_X L xs call M (pc, lo, [], h, c, s) Q := fun P hP => hP _ _ _ _ _ _ _ _ d ⟨rfl, rfl, hrt, hq⟩
end XU
/-- a call begins -/
theorem x_call {L : Nat} {xs : Nat → Int32} {d : Nat} {M : xm_M} {as lo : List Value} {h : xm_H} {Q : xm_Q} (hl : (xm_lay as).length ≤ xm_ml M) (he : xm_ent (xm_ml M) as = lo) (k : xm_X L xs (xm_call L xs d) M (0, lo, [], h, 0, 0) Q) : xm_call L xs (d + 1) M as h Q := by
  subst he
  exact ⟨hl, k⟩
end
section
/-! The methods. (Printed by gen_names.py.) -/
abbrev m_V_init : xm_M := (⟨"SnapshotVault", "<init>", "()V"⟩, prog_1_method_1_code, 2, none, 28, 437)
abbrev m_H_init : xm_M := (⟨"SnapshotVault$History", "<init>", "()V"⟩, prog_2_method_1_code, 1, none, 4, 280)
abbrev m_R_init : xm_M := (⟨"SnapshotVault$Repository", "<init>", "()V"⟩, prog_3_method_1_code, 2, none, 3, 12)
abbrev m_U_init : xm_M := (⟨"SnapshotVault$Uniter", "<init>", "()V"⟩, prog_5_method_1_code, 1, none, 13, 112)
abbrev m_V_write : xm_M := (⟨"SnapshotVault", "write", "(IIJI)Z"⟩, prog_1_method_2_code, 6, some .boolean, 0, 0)
abbrev m_V_isRepository : xm_M := (⟨"SnapshotVault", "isRepository", "(I)Z"⟩, prog_1_method_23_code, 1, some .boolean, 0, 0)
abbrev m_V_isFile : xm_M := (⟨"SnapshotVault", "isFile", "(I)Z"⟩, prog_1_method_25_code, 1, some .boolean, 0, 0)
abbrev m_T_pack : xm_M := (⟨"SnapshotVault$Texts", "pack", "(JI)J"⟩, prog_4_method_2_code, 5, some .long, 0, 0)
abbrev m_V_remove : xm_M := (⟨"SnapshotVault", "remove", "(II)Z"⟩, prog_1_method_3_code, 3, some .boolean, 0, 0)
abbrev m_V_stage : xm_M := (⟨"SnapshotVault", "stage", "(II)Z"⟩, prog_1_method_4_code, 4, some .boolean, 0, 0)
abbrev m_V_commit : xm_M := (⟨"SnapshotVault", "commit", "(I)I"⟩, prog_1_method_5_code, 5, some .int, 0, 0)
abbrev m_R_head : xm_M := (⟨"SnapshotVault$Repository", "head", "()I"⟩, prog_3_method_2_code, 1, some .int, 0, 0)
abbrev m_H_hasSnapshot : xm_M := (⟨"SnapshotVault$History", "hasSnapshot", "(I[J)Z"⟩, prog_2_method_7_code, 4, some .boolean, 0, 0)
abbrev m_H_textOf : xm_M := (⟨"SnapshotVault$History", "textOf", "(II)J"⟩, prog_2_method_6_code, 3, some .long, 0, 0)
abbrev m_H_isMade : xm_M := (⟨"SnapshotVault$History", "isMade", "(I)Z"⟩, prog_2_method_3_code, 2, some .boolean, 0, 0)
abbrev m_H_add : xm_M := (⟨"SnapshotVault$History", "add", "([JII)I"⟩, prog_2_method_13_code, 6, some .int, 0, 0)
abbrev m_H_reachOf : xm_M := (⟨"SnapshotVault$History", "reachOf", "(I)J"⟩, prog_2_method_9_code, 2, some .long, 0, 0)
abbrev m_V_branch : xm_M := (⟨"SnapshotVault", "branch", "(II)Z"⟩, prog_1_method_6_code, 4, some .boolean, 0, 0)
abbrev m_V_isBranch : xm_M := (⟨"SnapshotVault", "isBranch", "(I)Z"⟩, prog_1_method_24_code, 1, some .boolean, 0, 0)
abbrev m_V_drop : xm_M := (⟨"SnapshotVault", "drop", "(II)Z"⟩, prog_1_method_7_code, 4, some .boolean, 0, 0)
abbrev m_V_checkout : xm_M := (⟨"SnapshotVault", "checkout", "(II)I"⟩, prog_1_method_8_code, 5, some .int, 0, 0)
abbrev m_V_isClean : xm_M := (⟨"SnapshotVault", "isClean", "(LSnapshotVault$Repository;)Z"⟩, prog_1_method_27_code, 3, some .boolean, 0, 0)
abbrev m_V_moveTo : xm_M := (⟨"SnapshotVault", "moveTo", "(LSnapshotVault$Repository;I)V"⟩, prog_1_method_29_code, 3, none, 0, 0)
abbrev m_H_copySnapshot : xm_M := (⟨"SnapshotVault$History", "copySnapshot", "(I[J)V"⟩, prog_2_method_8_code, 4, none, 0, 0)
abbrev m_V_merge : xm_M := (⟨"SnapshotVault", "merge", "(II)I"⟩, prog_1_method_9_code, 8, some .int, 0, 0)
abbrev m_V_refusalToChangeHead : xm_M := (⟨"SnapshotVault", "refusalToChangeHead", "(II)I"⟩, prog_1_method_28_code, 4, some .int, 0, 0)
abbrev m_H_reaches : xm_M := (⟨"SnapshotVault$History", "reaches", "(II)Z"⟩, prog_2_method_10_code, 3, some .boolean, 0, 0)
abbrev m_H_isIn : xm_M := (⟨"SnapshotVault$History", "isIn", "(JI)Z"⟩, prog_2_method_2_code, 3, some .boolean, 0, 0)
abbrev m_V_joinCommits : xm_M := (⟨"SnapshotVault", "joinCommits", "(II)I"⟩, prog_1_method_30_code, 3, some .int, 0, 0)
abbrev m_H_baseOf : xm_M := (⟨"SnapshotVault$History", "baseOf", "(II)I"⟩, prog_2_method_11_code, 6, some .int, 0, 0)
abbrev m_H_isReachedByLater : xm_M := (⟨"SnapshotVault$History", "isReachedByLater", "(JI)Z"⟩, prog_2_method_12_code, 5, some .boolean, 0, 0)
abbrev m_U_uniteSnapshots : xm_M := (⟨"SnapshotVault$Uniter", "uniteSnapshots", "(LSnapshotVault$History;III)Z"⟩, prog_5_method_2_code, 14, some .boolean, 0, 0)
abbrev m_U_take : xm_M := (⟨"SnapshotVault$Uniter", "take", "(JJJ)J"⟩, prog_5_method_3_code, 6, some .long, 0, 0)
abbrev m_U_uniteTexts : xm_M := (⟨"SnapshotVault$Uniter", "uniteTexts", "(JJJ)J"⟩, prog_5_method_4_code, 16, some .long, 0, 0)
abbrev m_U_countCommon : xm_M := (⟨"SnapshotVault$Uniter", "countCommon", "(JJ)V"⟩, prog_5_method_6_code, 9, none, 0, 0)
abbrev m_T_countOf : xm_M := (⟨"SnapshotVault$Texts", "countOf", "(J)I"⟩, prog_4_method_3_code, 2, some .int, 0, 0)
abbrev m_T_lineAt : xm_M := (⟨"SnapshotVault$Texts", "lineAt", "(JI)J"⟩, prog_4_method_4_code, 3, some .long, 0, 0)
abbrev m_U_matchLines : xm_M := (⟨"SnapshotVault$Uniter", "matchLines", "(JJ[I)V"⟩, prog_5_method_5_code, 10, none, 0, 0)
abbrev m_T_piece : xm_M := (⟨"SnapshotVault$Texts", "piece", "(JII)J"⟩, prog_4_method_5_code, 4, some .long, 0, 0)
abbrev m_T_join : xm_M := (⟨"SnapshotVault$Texts", "join", "(JJ)J"⟩, prog_4_method_6_code, 8, some .long, 0, 0)
abbrev m_V_pick : xm_M := (⟨"SnapshotVault", "pick", "(II)I"⟩, prog_1_method_10_code, 5, some .int, 0, 0)
abbrev m_V_isHeld : xm_M := (⟨"SnapshotVault", "isHeld", "(LSnapshotVault$Repository;I)Z"⟩, prog_1_method_26_code, 3, some .boolean, 0, 0)
abbrev m_V_doAgain : xm_M := (⟨"SnapshotVault", "doAgain", "(II)I"⟩, prog_1_method_31_code, 3, some .int, 0, 0)
abbrev m_H_secondParentOf : xm_M := (⟨"SnapshotVault$History", "secondParentOf", "(I)I"⟩, prog_2_method_5_code, 2, some .int, 0, 0)
abbrev m_H_firstParentOf : xm_M := (⟨"SnapshotVault$History", "firstParentOf", "(I)I"⟩, prog_2_method_4_code, 2, some .int, 0, 0)
abbrev m_V_rebase : xm_M := (⟨"SnapshotVault", "rebase", "(II)I"⟩, prog_1_method_11_code, 10, some .int, 0, 0)
abbrev m_V_doAllAgain : xm_M := (⟨"SnapshotVault", "doAllAgain", "(JI)I"⟩, prog_1_method_32_code, 7, some .int, 0, 0)
abbrev m_H_cutBackTo : xm_M := (⟨"SnapshotVault$History", "cutBackTo", "(I)V"⟩, prog_2_method_14_code, 2, none, 0, 0)
abbrev m_V_collect : xm_M := (⟨"SnapshotVault", "collect", "(I)I"⟩, prog_1_method_12_code, 6, some .int, 0, 0)
abbrev m_J_bitCount : xm_M := (⟨"java/lang/Long", "bitCount", "(J)I"⟩, prog_8_method_50_code, 2, some .int, 0, 0)
abbrev m_V_send : xm_M := (⟨"SnapshotVault", "send", "(II)I"⟩, prog_1_method_13_code, 7, some .int, 0, 0)
abbrev m_V_current : xm_M := (⟨"SnapshotVault", "current", "(I)I"⟩, prog_1_method_14_code, 2, some .int, 0, 0)
abbrev m_V_tip : xm_M := (⟨"SnapshotVault", "tip", "(II)I"⟩, prog_1_method_15_code, 3, some .int, 0, 0)
abbrev m_V_holds : xm_M := (⟨"SnapshotVault", "holds", "(II)Z"⟩, prog_1_method_16_code, 3, some .boolean, 0, 0)
abbrev m_V_commits : xm_M := (⟨"SnapshotVault", "commits", "()I"⟩, prog_1_method_17_code, 1, some .int, 0, 0)
abbrev m_V_parent : xm_M := (⟨"SnapshotVault", "parent", "(II)I"⟩, prog_1_method_18_code, 3, some .int, 0, 0)
abbrev m_V_text : xm_M := (⟨"SnapshotVault", "text", "(II)J"⟩, prog_1_method_19_code, 3, some .long, 0, 0)
abbrev m_V_working : xm_M := (⟨"SnapshotVault", "working", "(II)J"⟩, prog_1_method_20_code, 3, some .long, 0, 0)
abbrev m_V_staged : xm_M := (⟨"SnapshotVault", "staged", "(II)J"⟩, prog_1_method_21_code, 3, some .long, 0, 0)
abbrev m_V_base : xm_M := (⟨"SnapshotVault", "base", "(II)I"⟩, prog_1_method_22_code, 3, some .int, 0, 0)
abbrev m_M_init : xm_M := (⟨"SnapshotVaultModel", "<init>", "()V"⟩, prog_7_method_1_code, 2, none, 17, 565)
abbrev m_M_write : xm_M := (⟨"SnapshotVaultModel", "write", "(IIJI)Z"⟩, prog_7_method_22_code, 9, some .boolean, 0, 0)
abbrev m_M_out : xm_M := (⟨"SnapshotVaultModel", "out", "(II)Z"⟩, prog_7_method_2_code, 2, some .boolean, 0, 0)
abbrev m_M_remove : xm_M := (⟨"SnapshotVaultModel", "remove", "(II)Z"⟩, prog_7_method_23_code, 3, some .boolean, 0, 0)
abbrev m_M_stage : xm_M := (⟨"SnapshotVaultModel", "stage", "(II)Z"⟩, prog_7_method_24_code, 3, some .boolean, 0, 0)
abbrev m_M_commit : xm_M := (⟨"SnapshotVaultModel", "commit", "(I)I"⟩, prog_7_method_25_code, 4, some .int, 0, 0)
abbrev m_M_sameAsHead : xm_M := (⟨"SnapshotVaultModel", "sameAsHead", "([JI)Z"⟩, prog_7_method_17_code, 5, some .boolean, 0, 0)
abbrev m_M_head : xm_M := (⟨"SnapshotVaultModel", "head", "(I)I"⟩, prog_7_method_16_code, 2, some .int, 0, 0)
abbrev m_M_textOf : xm_M := (⟨"SnapshotVaultModel", "textOf", "(II)J"⟩, prog_7_method_12_code, 3, some .long, 0, 0)
abbrev m_M_make : xm_M := (⟨"SnapshotVaultModel", "make", "(III)I"⟩, prog_7_method_19_code, 5, some .int, 0, 0)
abbrev m_M_branch : xm_M := (⟨"SnapshotVaultModel", "branch", "(II)Z"⟩, prog_7_method_27_code, 3, some .boolean, 0, 0)
abbrev m_M_there : xm_M := (⟨"SnapshotVaultModel", "there", "(II)Z"⟩, prog_7_method_26_code, 3, some .boolean, 0, 0)
abbrev m_M_drop : xm_M := (⟨"SnapshotVaultModel", "drop", "(II)Z"⟩, prog_7_method_28_code, 3, some .boolean, 0, 0)
abbrev m_M_checkout : xm_M := (⟨"SnapshotVaultModel", "checkout", "(II)I"⟩, prog_7_method_29_code, 3, some .int, 0, 0)
abbrev m_M_dirty : xm_M := (⟨"SnapshotVaultModel", "dirty", "(I)Z"⟩, prog_7_method_18_code, 2, some .boolean, 0, 0)
abbrev m_M_moveTo : xm_M := (⟨"SnapshotVaultModel", "moveTo", "(II)I"⟩, prog_7_method_20_code, 4, some .int, 0, 0)
abbrev m_M_merge : xm_M := (⟨"SnapshotVaultModel", "merge", "(II)I"⟩, prog_7_method_30_code, 7, some .int, 0, 0)
abbrev m_M_reaches : xm_M := (⟨"SnapshotVaultModel", "reaches", "(II)Z"⟩, prog_7_method_14_code, 3, some .boolean, 0, 0)
abbrev m_M_reached : xm_M := (⟨"SnapshotVaultModel", "reached", "(I)J"⟩, prog_7_method_13_code, 6, some .long, 0, 0)
abbrev m_M_baseOf : xm_M := (⟨"SnapshotVaultModel", "baseOf", "(II)I"⟩, prog_7_method_15_code, 8, some .int, 0, 0)
abbrev m_M_unite : xm_M := (⟨"SnapshotVaultModel", "unite", "()Z"⟩, prog_7_method_10_code, 9, some .boolean, 0, 0)
abbrev m_M_uniteTexts : xm_M := (⟨"SnapshotVaultModel", "uniteTexts", "(JJJ)J"⟩, prog_7_method_9_code, 15, some .long, 0, 0)
abbrev m_M_size : xm_M := (⟨"SnapshotVaultModel", "size", "(J)I"⟩, prog_7_method_3_code, 2, some .int, 0, 0)
abbrev m_M_matched : xm_M := (⟨"SnapshotVaultModel", "matched", "(JJI)I"⟩, prog_7_method_6_code, 8, some .int, 0, 0)
abbrev m_M_subsequences : xm_M := (⟨"SnapshotVaultModel", "subsequences", "(JJ)V"⟩, prog_7_method_5_code, 10, none, 0, 0)
abbrev m_M_line : xm_M := (⟨"SnapshotVaultModel", "line", "(JI)I"⟩, prog_7_method_4_code, 3, some .int, 0, 0)
abbrev m_M_equal : xm_M := (⟨"SnapshotVaultModel", "equal", "(JIIJII)Z"⟩, prog_7_method_7_code, 10, some .boolean, 0, 0)
abbrev m_M_take : xm_M := (⟨"SnapshotVaultModel", "take", "(JII)V"⟩, prog_7_method_8_code, 6, none, 0, 0)
abbrev m_M_putJoined : xm_M := (⟨"SnapshotVaultModel", "putJoined", "(I)V"⟩, prog_7_method_21_code, 3, none, 0, 0)
abbrev m_M_pick : xm_M := (⟨"SnapshotVaultModel", "pick", "(II)I"⟩, prog_7_method_32_code, 5, some .int, 0, 0)
abbrev m_M_again : xm_M := (⟨"SnapshotVaultModel", "again", "(I)Z"⟩, prog_7_method_31_code, 3, some .boolean, 0, 0)
abbrev m_M_changedNothing : xm_M := (⟨"SnapshotVaultModel", "changedNothing", "()Z"⟩, prog_7_method_11_code, 3, some .boolean, 0, 0)
abbrev m_M_rebase : xm_M := (⟨"SnapshotVaultModel", "rebase", "(II)I"⟩, prog_7_method_34_code, 7, some .int, 0, 0)
abbrev m_M_replay : xm_M := (⟨"SnapshotVaultModel", "replay", "(J)I"⟩, prog_7_method_33_code, 6, some .int, 0, 0)
abbrev m_M_collect : xm_M := (⟨"SnapshotVaultModel", "collect", "(I)I"⟩, prog_7_method_36_code, 5, some .int, 0, 0)
abbrev m_M_many : xm_M := (⟨"SnapshotVaultModel", "many", "(J)I"⟩, prog_7_method_35_code, 4, some .int, 0, 0)
abbrev m_M_send : xm_M := (⟨"SnapshotVaultModel", "send", "(II)I"⟩, prog_7_method_37_code, 8, some .int, 0, 0)
abbrev m_M_current : xm_M := (⟨"SnapshotVaultModel", "current", "(I)I"⟩, prog_7_method_38_code, 2, some .int, 0, 0)
abbrev m_M_tip : xm_M := (⟨"SnapshotVaultModel", "tip", "(II)I"⟩, prog_7_method_39_code, 3, some .int, 0, 0)
abbrev m_M_holds : xm_M := (⟨"SnapshotVaultModel", "holds", "(II)Z"⟩, prog_7_method_40_code, 3, some .boolean, 0, 0)
abbrev m_M_commits : xm_M := (⟨"SnapshotVaultModel", "commits", "()I"⟩, prog_7_method_41_code, 1, some .int, 0, 0)
abbrev m_M_parent : xm_M := (⟨"SnapshotVaultModel", "parent", "(II)I"⟩, prog_7_method_42_code, 3, some .int, 0, 0)
abbrev m_M_text : xm_M := (⟨"SnapshotVaultModel", "text", "(II)J"⟩, prog_7_method_43_code, 3, some .long, 0, 0)
abbrev m_M_working : xm_M := (⟨"SnapshotVaultModel", "working", "(II)J"⟩, prog_7_method_44_code, 3, some .long, 0, 0)
abbrev m_M_staged : xm_M := (⟨"SnapshotVaultModel", "staged", "(II)J"⟩, prog_7_method_45_code, 3, some .long, 0, 0)
abbrev m_M_base : xm_M := (⟨"SnapshotVaultModel", "base", "(II)I"⟩, prog_7_method_46_code, 3, some .int, 0, 0)
abbrev m_L_law : xm_M := (⟨"SnapshotVaultLaw", "law", "([I)Z"⟩, code, 4, some .boolean, 600000, 7302250)
end
section
/-! Decode rows. (Printed by gen_names.py.) -/
theorem d_V_init_0 : decode prog_1_method_1_code 0 = .ok (.aload_n 0, 1) := by decide +kernel
theorem d_V_init_1 : decode prog_1_method_1_code 1 = .ok (.invokespecial 1, 3) := by decide +kernel
theorem d_V_init_4 : decode prog_1_method_1_code 4 = .ok (.aload_n 0, 1) := by decide +kernel
theorem d_V_init_5 : decode prog_1_method_1_code 5 = .ok (.new 7, 3) := by decide +kernel
theorem d_V_init_8 : decode prog_1_method_1_code 8 = .ok (.dup, 1) := by decide +kernel
theorem d_V_init_9 : decode prog_1_method_1_code 9 = .ok (.invokespecial 9, 3) := by decide +kernel
theorem d_V_init_12 : decode prog_1_method_1_code 12 = .ok (.putfield 10, 3) := by decide +kernel
theorem d_V_init_15 : decode prog_1_method_1_code 15 = .ok (.aload_n 0, 1) := by decide +kernel
theorem d_V_init_16 : decode prog_1_method_1_code 16 = .ok (.iconst 2, 1) := by decide +kernel
theorem d_V_init_17 : decode prog_1_method_1_code 17 = .ok (.anewarray 16, 3) := by decide +kernel
theorem d_V_init_20 : decode prog_1_method_1_code 20 = .ok (.putfield 18, 3) := by decide +kernel
theorem d_V_init_23 : decode prog_1_method_1_code 23 = .ok (.iconst 0, 1) := by decide +kernel
theorem d_V_init_24 : decode prog_1_method_1_code 24 = .ok (.istore_n 1, 1) := by decide +kernel
theorem d_V_init_25 : decode prog_1_method_1_code 25 = .ok (.iload_n 1, 1) := by decide +kernel
theorem d_V_init_26 : decode prog_1_method_1_code 26 = .ok (.iconst 2, 1) := by decide +kernel
theorem d_V_init_27 : decode prog_1_method_1_code 27 = .ok (.if_icmp .ge 22, 3) := by decide +kernel
theorem d_V_init_30 : decode prog_1_method_1_code 30 = .ok (.aload_n 0, 1) := by decide +kernel
theorem d_V_init_31 : decode prog_1_method_1_code 31 = .ok (.getfield 18, 3) := by decide +kernel
theorem d_V_init_34 : decode prog_1_method_1_code 34 = .ok (.iload_n 1, 1) := by decide +kernel
theorem d_V_init_35 : decode prog_1_method_1_code 35 = .ok (.new 16, 3) := by decide +kernel
theorem d_V_init_38 : decode prog_1_method_1_code 38 = .ok (.dup, 1) := by decide +kernel
theorem d_V_init_39 : decode prog_1_method_1_code 39 = .ok (.invokespecial 22, 3) := by decide +kernel
theorem d_V_init_42 : decode prog_1_method_1_code 42 = .ok (.aastore, 1) := by decide +kernel
theorem d_V_init_43 : decode prog_1_method_1_code 43 = .ok (.iinc 1 1, 3) := by decide +kernel
theorem d_V_init_46 : decode prog_1_method_1_code 46 = .ok (.goto (-21), 3) := by decide +kernel
theorem d_V_init_49 : decode prog_1_method_1_code 49 = .ok (.aload_n 0, 1) := by decide +kernel
theorem d_V_init_50 : decode prog_1_method_1_code 50 = .ok (.new 23, 3) := by decide +kernel
theorem d_V_init_53 : decode prog_1_method_1_code 53 = .ok (.dup, 1) := by decide +kernel
theorem d_V_init_54 : decode prog_1_method_1_code 54 = .ok (.invokespecial 25, 3) := by decide +kernel
theorem d_V_init_57 : decode prog_1_method_1_code 57 = .ok (.putfield 26, 3) := by decide +kernel
theorem d_V_init_60 : decode prog_1_method_1_code 60 = .ok (.return_, 1) := by decide +kernel
theorem d_V_write_0 : decode prog_1_method_2_code 0 = .ok (.iload_n 1, 1) := by decide +kernel
theorem d_V_write_1 : decode prog_1_method_2_code 1 = .ok (.invokestatic 30, 3) := by decide +kernel
theorem d_V_write_4 : decode prog_1_method_2_code 4 = .ok (.ifCond .eq 22, 3) := by decide +kernel
theorem d_V_write_7 : decode prog_1_method_2_code 7 = .ok (.iload_n 2, 1) := by decide +kernel
theorem d_V_write_8 : decode prog_1_method_2_code 8 = .ok (.invokestatic 34, 3) := by decide +kernel
theorem d_V_write_11 : decode prog_1_method_2_code 11 = .ok (.ifCond .eq 15, 3) := by decide +kernel
theorem d_V_write_14 : decode prog_1_method_2_code 14 = .ok (.iload 5, 2) := by decide +kernel
theorem d_V_write_16 : decode prog_1_method_2_code 16 = .ok (.ifCond .lt 10, 3) := by decide +kernel
theorem d_V_write_19 : decode prog_1_method_2_code 19 = .ok (.iload 5, 2) := by decide +kernel
theorem d_V_write_21 : decode prog_1_method_2_code 21 = .ok (.bipush 8, 2) := by decide +kernel
theorem d_V_write_23 : decode prog_1_method_2_code 23 = .ok (.if_icmp .le 5, 3) := by decide +kernel
theorem d_V_write_26 : decode prog_1_method_2_code 26 = .ok (.iconst 0, 1) := by decide +kernel
theorem d_V_write_27 : decode prog_1_method_2_code 27 = .ok (.ireturn, 1) := by decide +kernel
theorem d_V_write_28 : decode prog_1_method_2_code 28 = .ok (.aload_n 0, 1) := by decide +kernel
theorem d_V_write_29 : decode prog_1_method_2_code 29 = .ok (.getfield 18, 3) := by decide +kernel
theorem d_V_write_32 : decode prog_1_method_2_code 32 = .ok (.iload_n 1, 1) := by decide +kernel
theorem d_V_write_33 : decode prog_1_method_2_code 33 = .ok (.aaload, 1) := by decide +kernel
theorem d_V_write_34 : decode prog_1_method_2_code 34 = .ok (.getfield 37, 3) := by decide +kernel
theorem d_V_write_37 : decode prog_1_method_2_code 37 = .ok (.iload_n 2, 1) := by decide +kernel
theorem d_V_write_38 : decode prog_1_method_2_code 38 = .ok (.lload_n 3, 1) := by decide +kernel
theorem d_V_write_39 : decode prog_1_method_2_code 39 = .ok (.iload 5, 2) := by decide +kernel
theorem d_V_write_41 : decode prog_1_method_2_code 41 = .ok (.invokestatic 41, 3) := by decide +kernel
theorem d_V_write_44 : decode prog_1_method_2_code 44 = .ok (.lastore, 1) := by decide +kernel
theorem d_V_write_45 : decode prog_1_method_2_code 45 = .ok (.iconst 1, 1) := by decide +kernel
theorem d_V_write_46 : decode prog_1_method_2_code 46 = .ok (.ireturn, 1) := by decide +kernel
theorem d_V_isRepository_0 : decode prog_1_method_23_code 0 = .ok (.iload_n 0, 1) := by decide +kernel
theorem d_V_isRepository_1 : decode prog_1_method_23_code 1 = .ok (.ifCond .lt 12, 3) := by decide +kernel
theorem d_V_isRepository_4 : decode prog_1_method_23_code 4 = .ok (.iload_n 0, 1) := by decide +kernel
theorem d_V_isRepository_5 : decode prog_1_method_23_code 5 = .ok (.iconst 2, 1) := by decide +kernel
theorem d_V_isRepository_6 : decode prog_1_method_23_code 6 = .ok (.if_icmp .ge 7, 3) := by decide +kernel
theorem d_V_isRepository_9 : decode prog_1_method_23_code 9 = .ok (.iconst 1, 1) := by decide +kernel
theorem d_V_isRepository_10 : decode prog_1_method_23_code 10 = .ok (.goto 4, 3) := by decide +kernel
theorem d_V_isRepository_13 : decode prog_1_method_23_code 13 = .ok (.iconst 0, 1) := by decide +kernel
theorem d_V_isRepository_14 : decode prog_1_method_23_code 14 = .ok (.ireturn, 1) := by decide +kernel
theorem d_V_isFile_0 : decode prog_1_method_25_code 0 = .ok (.iload_n 0, 1) := by decide +kernel
theorem d_V_isFile_1 : decode prog_1_method_25_code 1 = .ok (.ifCond .lt 12, 3) := by decide +kernel
theorem d_V_isFile_4 : decode prog_1_method_25_code 4 = .ok (.iload_n 0, 1) := by decide +kernel
theorem d_V_isFile_5 : decode prog_1_method_25_code 5 = .ok (.iconst 4, 1) := by decide +kernel
theorem d_V_isFile_6 : decode prog_1_method_25_code 6 = .ok (.if_icmp .ge 7, 3) := by decide +kernel
theorem d_V_isFile_9 : decode prog_1_method_25_code 9 = .ok (.iconst 1, 1) := by decide +kernel
theorem d_V_isFile_10 : decode prog_1_method_25_code 10 = .ok (.goto 4, 3) := by decide +kernel
theorem d_V_isFile_13 : decode prog_1_method_25_code 13 = .ok (.iconst 0, 1) := by decide +kernel
theorem d_V_isFile_14 : decode prog_1_method_25_code 14 = .ok (.ireturn, 1) := by decide +kernel
theorem d_V_remove_0 : decode prog_1_method_3_code 0 = .ok (.iload_n 1, 1) := by decide +kernel
theorem d_V_remove_1 : decode prog_1_method_3_code 1 = .ok (.invokestatic 30, 3) := by decide +kernel
theorem d_V_remove_4 : decode prog_1_method_3_code 4 = .ok (.ifCond .eq 10, 3) := by decide +kernel
theorem d_V_remove_7 : decode prog_1_method_3_code 7 = .ok (.iload_n 2, 1) := by decide +kernel
theorem d_V_remove_8 : decode prog_1_method_3_code 8 = .ok (.invokestatic 34, 3) := by decide +kernel
theorem d_V_remove_11 : decode prog_1_method_3_code 11 = .ok (.ifCond .ne 5, 3) := by decide +kernel
theorem d_V_remove_14 : decode prog_1_method_3_code 14 = .ok (.iconst 0, 1) := by decide +kernel
theorem d_V_remove_15 : decode prog_1_method_3_code 15 = .ok (.ireturn, 1) := by decide +kernel
theorem d_V_remove_16 : decode prog_1_method_3_code 16 = .ok (.aload_n 0, 1) := by decide +kernel
theorem d_V_remove_17 : decode prog_1_method_3_code 17 = .ok (.getfield 18, 3) := by decide +kernel
theorem d_V_remove_20 : decode prog_1_method_3_code 20 = .ok (.iload_n 1, 1) := by decide +kernel
theorem d_V_remove_21 : decode prog_1_method_3_code 21 = .ok (.aaload, 1) := by decide +kernel
theorem d_V_remove_22 : decode prog_1_method_3_code 22 = .ok (.getfield 37, 3) := by decide +kernel
theorem d_V_remove_25 : decode prog_1_method_3_code 25 = .ok (.iload_n 2, 1) := by decide +kernel
theorem d_V_remove_26 : decode prog_1_method_3_code 26 = .ok (.ldc2_w 47, 3) := by decide +kernel
theorem d_V_remove_29 : decode prog_1_method_3_code 29 = .ok (.lastore, 1) := by decide +kernel
theorem d_V_remove_30 : decode prog_1_method_3_code 30 = .ok (.iconst 1, 1) := by decide +kernel
theorem d_V_remove_31 : decode prog_1_method_3_code 31 = .ok (.ireturn, 1) := by decide +kernel
theorem d_V_stage_0 : decode prog_1_method_4_code 0 = .ok (.iload_n 1, 1) := by decide +kernel
theorem d_V_stage_1 : decode prog_1_method_4_code 1 = .ok (.invokestatic 30, 3) := by decide +kernel
theorem d_V_stage_4 : decode prog_1_method_4_code 4 = .ok (.ifCond .eq 10, 3) := by decide +kernel
theorem d_V_stage_7 : decode prog_1_method_4_code 7 = .ok (.iload_n 2, 1) := by decide +kernel
theorem d_V_stage_8 : decode prog_1_method_4_code 8 = .ok (.invokestatic 34, 3) := by decide +kernel
theorem d_V_stage_11 : decode prog_1_method_4_code 11 = .ok (.ifCond .ne 5, 3) := by decide +kernel
theorem d_V_stage_14 : decode prog_1_method_4_code 14 = .ok (.iconst 0, 1) := by decide +kernel
theorem d_V_stage_15 : decode prog_1_method_4_code 15 = .ok (.ireturn, 1) := by decide +kernel
theorem d_V_stage_16 : decode prog_1_method_4_code 16 = .ok (.aload_n 0, 1) := by decide +kernel
theorem d_V_stage_17 : decode prog_1_method_4_code 17 = .ok (.getfield 18, 3) := by decide +kernel
theorem d_V_stage_20 : decode prog_1_method_4_code 20 = .ok (.iload_n 1, 1) := by decide +kernel
theorem d_V_stage_21 : decode prog_1_method_4_code 21 = .ok (.aaload, 1) := by decide +kernel
theorem d_V_stage_22 : decode prog_1_method_4_code 22 = .ok (.astore_n 3, 1) := by decide +kernel
theorem d_V_stage_23 : decode prog_1_method_4_code 23 = .ok (.aload_n 3, 1) := by decide +kernel
theorem d_V_stage_24 : decode prog_1_method_4_code 24 = .ok (.getfield 49, 3) := by decide +kernel
theorem d_V_stage_27 : decode prog_1_method_4_code 27 = .ok (.iload_n 2, 1) := by decide +kernel
theorem d_V_stage_28 : decode prog_1_method_4_code 28 = .ok (.aload_n 3, 1) := by decide +kernel
theorem d_V_stage_29 : decode prog_1_method_4_code 29 = .ok (.getfield 37, 3) := by decide +kernel
theorem d_V_stage_32 : decode prog_1_method_4_code 32 = .ok (.iload_n 2, 1) := by decide +kernel
theorem d_V_stage_33 : decode prog_1_method_4_code 33 = .ok (.laload, 1) := by decide +kernel
theorem d_V_stage_34 : decode prog_1_method_4_code 34 = .ok (.lastore, 1) := by decide +kernel
theorem d_V_stage_35 : decode prog_1_method_4_code 35 = .ok (.iconst 1, 1) := by decide +kernel
theorem d_V_stage_36 : decode prog_1_method_4_code 36 = .ok (.ireturn, 1) := by decide +kernel
theorem d_V_commit_0 : decode prog_1_method_5_code 0 = .ok (.iload_n 1, 1) := by decide +kernel
theorem d_V_commit_1 : decode prog_1_method_5_code 1 = .ok (.invokestatic 30, 3) := by decide +kernel
theorem d_V_commit_4 : decode prog_1_method_5_code 4 = .ok (.ifCond .ne 5, 3) := by decide +kernel
theorem d_V_commit_7 : decode prog_1_method_5_code 7 = .ok (.iconst (-1), 1) := by decide +kernel
theorem d_V_commit_8 : decode prog_1_method_5_code 8 = .ok (.ireturn, 1) := by decide +kernel
theorem d_V_commit_9 : decode prog_1_method_5_code 9 = .ok (.aload_n 0, 1) := by decide +kernel
theorem d_V_commit_10 : decode prog_1_method_5_code 10 = .ok (.getfield 18, 3) := by decide +kernel
theorem d_V_commit_13 : decode prog_1_method_5_code 13 = .ok (.iload_n 1, 1) := by decide +kernel
theorem d_V_commit_14 : decode prog_1_method_5_code 14 = .ok (.aaload, 1) := by decide +kernel
theorem d_V_commit_15 : decode prog_1_method_5_code 15 = .ok (.astore_n 2, 1) := by decide +kernel
theorem d_V_commit_16 : decode prog_1_method_5_code 16 = .ok (.aload_n 2, 1) := by decide +kernel
theorem d_V_commit_17 : decode prog_1_method_5_code 17 = .ok (.invokevirtual 52, 3) := by decide +kernel
theorem d_V_commit_20 : decode prog_1_method_5_code 20 = .ok (.istore_n 3, 1) := by decide +kernel
theorem d_V_commit_21 : decode prog_1_method_5_code 21 = .ok (.aload_n 0, 1) := by decide +kernel
theorem d_V_commit_22 : decode prog_1_method_5_code 22 = .ok (.getfield 10, 3) := by decide +kernel
theorem d_V_commit_25 : decode prog_1_method_5_code 25 = .ok (.iload_n 3, 1) := by decide +kernel
theorem d_V_commit_26 : decode prog_1_method_5_code 26 = .ok (.aload_n 2, 1) := by decide +kernel
theorem d_V_commit_27 : decode prog_1_method_5_code 27 = .ok (.getfield 49, 3) := by decide +kernel
theorem d_V_commit_30 : decode prog_1_method_5_code 30 = .ok (.invokevirtual 56, 3) := by decide +kernel
theorem d_V_commit_33 : decode prog_1_method_5_code 33 = .ok (.ifCond .eq 6, 3) := by decide +kernel
theorem d_V_commit_36 : decode prog_1_method_5_code 36 = .ok (.bipush (-4), 2) := by decide +kernel
theorem d_V_commit_38 : decode prog_1_method_5_code 38 = .ok (.ireturn, 1) := by decide +kernel
theorem d_V_commit_39 : decode prog_1_method_5_code 39 = .ok (.aload_n 0, 1) := by decide +kernel
theorem d_V_commit_40 : decode prog_1_method_5_code 40 = .ok (.getfield 10, 3) := by decide +kernel
theorem d_V_commit_43 : decode prog_1_method_5_code 43 = .ok (.aload_n 2, 1) := by decide +kernel
theorem d_V_commit_44 : decode prog_1_method_5_code 44 = .ok (.getfield 49, 3) := by decide +kernel
theorem d_V_commit_47 : decode prog_1_method_5_code 47 = .ok (.iload_n 3, 1) := by decide +kernel
theorem d_V_commit_48 : decode prog_1_method_5_code 48 = .ok (.bipush (-2), 2) := by decide +kernel
theorem d_V_commit_50 : decode prog_1_method_5_code 50 = .ok (.invokevirtual 60, 3) := by decide +kernel
theorem d_V_commit_53 : decode prog_1_method_5_code 53 = .ok (.istore 4, 2) := by decide +kernel
theorem d_V_commit_55 : decode prog_1_method_5_code 55 = .ok (.iload 4, 2) := by decide +kernel
theorem d_V_commit_57 : decode prog_1_method_5_code 57 = .ok (.bipush (-6), 2) := by decide +kernel
theorem d_V_commit_59 : decode prog_1_method_5_code 59 = .ok (.if_icmp .eq 32, 3) := by decide +kernel
theorem d_V_commit_62 : decode prog_1_method_5_code 62 = .ok (.aload_n 2, 1) := by decide +kernel
theorem d_V_commit_63 : decode prog_1_method_5_code 63 = .ok (.dup, 1) := by decide +kernel
theorem d_V_commit_64 : decode prog_1_method_5_code 64 = .ok (.getfield 64, 3) := by decide +kernel
theorem d_V_commit_67 : decode prog_1_method_5_code 67 = .ok (.aload_n 0, 1) := by decide +kernel
theorem d_V_commit_68 : decode prog_1_method_5_code 68 = .ok (.getfield 10, 3) := by decide +kernel
theorem d_V_commit_71 : decode prog_1_method_5_code 71 = .ok (.iload 4, 2) := by decide +kernel
theorem d_V_commit_73 : decode prog_1_method_5_code 73 = .ok (.invokevirtual 68, 3) := by decide +kernel
theorem d_V_commit_76 : decode prog_1_method_5_code 76 = .ok (.lor, 1) := by decide +kernel
theorem d_V_commit_77 : decode prog_1_method_5_code 77 = .ok (.putfield 64, 3) := by decide +kernel
theorem d_V_commit_80 : decode prog_1_method_5_code 80 = .ok (.aload_n 2, 1) := by decide +kernel
theorem d_V_commit_81 : decode prog_1_method_5_code 81 = .ok (.getfield 72, 3) := by decide +kernel
theorem d_V_commit_84 : decode prog_1_method_5_code 84 = .ok (.aload_n 2, 1) := by decide +kernel
theorem d_V_commit_85 : decode prog_1_method_5_code 85 = .ok (.getfield 76, 3) := by decide +kernel
theorem d_V_commit_88 : decode prog_1_method_5_code 88 = .ok (.iload 4, 2) := by decide +kernel
theorem d_V_commit_90 : decode prog_1_method_5_code 90 = .ok (.iastore, 1) := by decide +kernel
theorem d_V_commit_91 : decode prog_1_method_5_code 91 = .ok (.iload 4, 2) := by decide +kernel
theorem d_V_commit_93 : decode prog_1_method_5_code 93 = .ok (.ireturn, 1) := by decide +kernel
theorem d_V_branch_0 : decode prog_1_method_6_code 0 = .ok (.iload_n 1, 1) := by decide +kernel
theorem d_V_branch_1 : decode prog_1_method_6_code 1 = .ok (.invokestatic 30, 3) := by decide +kernel
theorem d_V_branch_4 : decode prog_1_method_6_code 4 = .ok (.ifCond .eq 10, 3) := by decide +kernel
theorem d_V_branch_7 : decode prog_1_method_6_code 7 = .ok (.iload_n 2, 1) := by decide +kernel
theorem d_V_branch_8 : decode prog_1_method_6_code 8 = .ok (.invokestatic 80, 3) := by decide +kernel
theorem d_V_branch_11 : decode prog_1_method_6_code 11 = .ok (.ifCond .ne 5, 3) := by decide +kernel
theorem d_V_branch_14 : decode prog_1_method_6_code 14 = .ok (.iconst 0, 1) := by decide +kernel
theorem d_V_branch_15 : decode prog_1_method_6_code 15 = .ok (.ireturn, 1) := by decide +kernel
theorem d_V_branch_16 : decode prog_1_method_6_code 16 = .ok (.aload_n 0, 1) := by decide +kernel
theorem d_V_branch_17 : decode prog_1_method_6_code 17 = .ok (.getfield 18, 3) := by decide +kernel
theorem d_V_branch_20 : decode prog_1_method_6_code 20 = .ok (.iload_n 1, 1) := by decide +kernel
theorem d_V_branch_21 : decode prog_1_method_6_code 21 = .ok (.aaload, 1) := by decide +kernel
theorem d_V_branch_22 : decode prog_1_method_6_code 22 = .ok (.astore_n 3, 1) := by decide +kernel
theorem d_V_branch_23 : decode prog_1_method_6_code 23 = .ok (.aload_n 3, 1) := by decide +kernel
theorem d_V_branch_24 : decode prog_1_method_6_code 24 = .ok (.getfield 72, 3) := by decide +kernel
theorem d_V_branch_27 : decode prog_1_method_6_code 27 = .ok (.iload_n 2, 1) := by decide +kernel
theorem d_V_branch_28 : decode prog_1_method_6_code 28 = .ok (.iaload, 1) := by decide +kernel
theorem d_V_branch_29 : decode prog_1_method_6_code 29 = .ok (.bipush (-2), 2) := by decide +kernel
theorem d_V_branch_31 : decode prog_1_method_6_code 31 = .ok (.if_icmp .ne 12, 3) := by decide +kernel
theorem d_V_branch_34 : decode prog_1_method_6_code 34 = .ok (.aload_n 3, 1) := by decide +kernel
theorem d_V_branch_35 : decode prog_1_method_6_code 35 = .ok (.invokevirtual 52, 3) := by decide +kernel
theorem d_V_branch_38 : decode prog_1_method_6_code 38 = .ok (.bipush (-2), 2) := by decide +kernel
theorem d_V_branch_40 : decode prog_1_method_6_code 40 = .ok (.if_icmp .ne 5, 3) := by decide +kernel
theorem d_V_branch_43 : decode prog_1_method_6_code 43 = .ok (.iconst 0, 1) := by decide +kernel
theorem d_V_branch_44 : decode prog_1_method_6_code 44 = .ok (.ireturn, 1) := by decide +kernel
theorem d_V_branch_45 : decode prog_1_method_6_code 45 = .ok (.aload_n 3, 1) := by decide +kernel
theorem d_V_branch_46 : decode prog_1_method_6_code 46 = .ok (.getfield 72, 3) := by decide +kernel
theorem d_V_branch_49 : decode prog_1_method_6_code 49 = .ok (.iload_n 2, 1) := by decide +kernel
theorem d_V_branch_50 : decode prog_1_method_6_code 50 = .ok (.aload_n 3, 1) := by decide +kernel
theorem d_V_branch_51 : decode prog_1_method_6_code 51 = .ok (.invokevirtual 52, 3) := by decide +kernel
theorem d_V_branch_54 : decode prog_1_method_6_code 54 = .ok (.iastore, 1) := by decide +kernel
theorem d_V_branch_55 : decode prog_1_method_6_code 55 = .ok (.iconst 1, 1) := by decide +kernel
theorem d_V_branch_56 : decode prog_1_method_6_code 56 = .ok (.ireturn, 1) := by decide +kernel
theorem d_V_isBranch_0 : decode prog_1_method_24_code 0 = .ok (.iload_n 0, 1) := by decide +kernel
theorem d_V_isBranch_1 : decode prog_1_method_24_code 1 = .ok (.ifCond .lt 12, 3) := by decide +kernel
theorem d_V_isBranch_4 : decode prog_1_method_24_code 4 = .ok (.iload_n 0, 1) := by decide +kernel
theorem d_V_isBranch_5 : decode prog_1_method_24_code 5 = .ok (.iconst 4, 1) := by decide +kernel
theorem d_V_isBranch_6 : decode prog_1_method_24_code 6 = .ok (.if_icmp .ge 7, 3) := by decide +kernel
theorem d_V_isBranch_9 : decode prog_1_method_24_code 9 = .ok (.iconst 1, 1) := by decide +kernel
theorem d_V_isBranch_10 : decode prog_1_method_24_code 10 = .ok (.goto 4, 3) := by decide +kernel
theorem d_V_isBranch_13 : decode prog_1_method_24_code 13 = .ok (.iconst 0, 1) := by decide +kernel
theorem d_V_isBranch_14 : decode prog_1_method_24_code 14 = .ok (.ireturn, 1) := by decide +kernel
theorem d_V_drop_0 : decode prog_1_method_7_code 0 = .ok (.iload_n 1, 1) := by decide +kernel
theorem d_V_drop_1 : decode prog_1_method_7_code 1 = .ok (.invokestatic 30, 3) := by decide +kernel
theorem d_V_drop_4 : decode prog_1_method_7_code 4 = .ok (.ifCond .eq 10, 3) := by decide +kernel
theorem d_V_drop_7 : decode prog_1_method_7_code 7 = .ok (.iload_n 2, 1) := by decide +kernel
theorem d_V_drop_8 : decode prog_1_method_7_code 8 = .ok (.invokestatic 80, 3) := by decide +kernel
theorem d_V_drop_11 : decode prog_1_method_7_code 11 = .ok (.ifCond .ne 5, 3) := by decide +kernel
theorem d_V_drop_14 : decode prog_1_method_7_code 14 = .ok (.iconst 0, 1) := by decide +kernel
theorem d_V_drop_15 : decode prog_1_method_7_code 15 = .ok (.ireturn, 1) := by decide +kernel
theorem d_V_drop_16 : decode prog_1_method_7_code 16 = .ok (.aload_n 0, 1) := by decide +kernel
theorem d_V_drop_17 : decode prog_1_method_7_code 17 = .ok (.getfield 18, 3) := by decide +kernel
theorem d_V_drop_20 : decode prog_1_method_7_code 20 = .ok (.iload_n 1, 1) := by decide +kernel
theorem d_V_drop_21 : decode prog_1_method_7_code 21 = .ok (.aaload, 1) := by decide +kernel
theorem d_V_drop_22 : decode prog_1_method_7_code 22 = .ok (.astore_n 3, 1) := by decide +kernel
theorem d_V_drop_23 : decode prog_1_method_7_code 23 = .ok (.aload_n 3, 1) := by decide +kernel
theorem d_V_drop_24 : decode prog_1_method_7_code 24 = .ok (.getfield 72, 3) := by decide +kernel
theorem d_V_drop_27 : decode prog_1_method_7_code 27 = .ok (.iload_n 2, 1) := by decide +kernel
theorem d_V_drop_28 : decode prog_1_method_7_code 28 = .ok (.iaload, 1) := by decide +kernel
theorem d_V_drop_29 : decode prog_1_method_7_code 29 = .ok (.bipush (-2), 2) := by decide +kernel
theorem d_V_drop_31 : decode prog_1_method_7_code 31 = .ok (.if_icmp .eq 11, 3) := by decide +kernel
theorem d_V_drop_34 : decode prog_1_method_7_code 34 = .ok (.aload_n 3, 1) := by decide +kernel
theorem d_V_drop_35 : decode prog_1_method_7_code 35 = .ok (.getfield 76, 3) := by decide +kernel
theorem d_V_drop_38 : decode prog_1_method_7_code 38 = .ok (.iload_n 2, 1) := by decide +kernel
theorem d_V_drop_39 : decode prog_1_method_7_code 39 = .ok (.if_icmp .ne 5, 3) := by decide +kernel
theorem d_V_drop_42 : decode prog_1_method_7_code 42 = .ok (.iconst 0, 1) := by decide +kernel
theorem d_V_drop_43 : decode prog_1_method_7_code 43 = .ok (.ireturn, 1) := by decide +kernel
theorem d_V_drop_44 : decode prog_1_method_7_code 44 = .ok (.aload_n 3, 1) := by decide +kernel
theorem d_V_drop_45 : decode prog_1_method_7_code 45 = .ok (.getfield 72, 3) := by decide +kernel
theorem d_V_drop_48 : decode prog_1_method_7_code 48 = .ok (.iload_n 2, 1) := by decide +kernel
theorem d_V_drop_49 : decode prog_1_method_7_code 49 = .ok (.bipush (-2), 2) := by decide +kernel
theorem d_V_drop_51 : decode prog_1_method_7_code 51 = .ok (.iastore, 1) := by decide +kernel
theorem d_V_drop_52 : decode prog_1_method_7_code 52 = .ok (.iconst 1, 1) := by decide +kernel
theorem d_V_drop_53 : decode prog_1_method_7_code 53 = .ok (.ireturn, 1) := by decide +kernel
theorem d_V_checkout_0 : decode prog_1_method_8_code 0 = .ok (.iload_n 1, 1) := by decide +kernel
theorem d_V_checkout_1 : decode prog_1_method_8_code 1 = .ok (.invokestatic 30, 3) := by decide +kernel
theorem d_V_checkout_4 : decode prog_1_method_8_code 4 = .ok (.ifCond .eq 10, 3) := by decide +kernel
theorem d_V_checkout_7 : decode prog_1_method_8_code 7 = .ok (.iload_n 2, 1) := by decide +kernel
theorem d_V_checkout_8 : decode prog_1_method_8_code 8 = .ok (.invokestatic 80, 3) := by decide +kernel
theorem d_V_checkout_11 : decode prog_1_method_8_code 11 = .ok (.ifCond .ne 5, 3) := by decide +kernel
theorem d_V_checkout_14 : decode prog_1_method_8_code 14 = .ok (.iconst (-1), 1) := by decide +kernel
theorem d_V_checkout_15 : decode prog_1_method_8_code 15 = .ok (.ireturn, 1) := by decide +kernel
theorem d_V_checkout_16 : decode prog_1_method_8_code 16 = .ok (.aload_n 0, 1) := by decide +kernel
theorem d_V_checkout_17 : decode prog_1_method_8_code 17 = .ok (.getfield 18, 3) := by decide +kernel
theorem d_V_checkout_20 : decode prog_1_method_8_code 20 = .ok (.iload_n 1, 1) := by decide +kernel
theorem d_V_checkout_21 : decode prog_1_method_8_code 21 = .ok (.aaload, 1) := by decide +kernel
theorem d_V_checkout_22 : decode prog_1_method_8_code 22 = .ok (.astore_n 3, 1) := by decide +kernel
theorem d_V_checkout_23 : decode prog_1_method_8_code 23 = .ok (.aload_n 3, 1) := by decide +kernel
theorem d_V_checkout_24 : decode prog_1_method_8_code 24 = .ok (.getfield 72, 3) := by decide +kernel
theorem d_V_checkout_27 : decode prog_1_method_8_code 27 = .ok (.iload_n 2, 1) := by decide +kernel
theorem d_V_checkout_28 : decode prog_1_method_8_code 28 = .ok (.iaload, 1) := by decide +kernel
theorem d_V_checkout_29 : decode prog_1_method_8_code 29 = .ok (.istore 4, 2) := by decide +kernel
theorem d_V_checkout_31 : decode prog_1_method_8_code 31 = .ok (.iload 4, 2) := by decide +kernel
theorem d_V_checkout_33 : decode prog_1_method_8_code 33 = .ok (.bipush (-2), 2) := by decide +kernel
theorem d_V_checkout_35 : decode prog_1_method_8_code 35 = .ok (.if_icmp .ne 6, 3) := by decide +kernel
theorem d_V_checkout_38 : decode prog_1_method_8_code 38 = .ok (.bipush (-2), 2) := by decide +kernel
theorem d_V_checkout_40 : decode prog_1_method_8_code 40 = .ok (.ireturn, 1) := by decide +kernel
theorem d_V_checkout_41 : decode prog_1_method_8_code 41 = .ok (.aload_n 0, 1) := by decide +kernel
theorem d_V_checkout_42 : decode prog_1_method_8_code 42 = .ok (.aload_n 3, 1) := by decide +kernel
theorem d_V_checkout_43 : decode prog_1_method_8_code 43 = .ok (.invokevirtual 83, 3) := by decide +kernel
theorem d_V_checkout_46 : decode prog_1_method_8_code 46 = .ok (.ifCond .ne 6, 3) := by decide +kernel
theorem d_V_checkout_49 : decode prog_1_method_8_code 49 = .ok (.bipush (-3), 2) := by decide +kernel
theorem d_V_checkout_51 : decode prog_1_method_8_code 51 = .ok (.ireturn, 1) := by decide +kernel
theorem d_V_checkout_52 : decode prog_1_method_8_code 52 = .ok (.aload_n 3, 1) := by decide +kernel
theorem d_V_checkout_53 : decode prog_1_method_8_code 53 = .ok (.iload_n 2, 1) := by decide +kernel
theorem d_V_checkout_54 : decode prog_1_method_8_code 54 = .ok (.putfield 76, 3) := by decide +kernel
theorem d_V_checkout_57 : decode prog_1_method_8_code 57 = .ok (.aload_n 0, 1) := by decide +kernel
theorem d_V_checkout_58 : decode prog_1_method_8_code 58 = .ok (.aload_n 3, 1) := by decide +kernel
theorem d_V_checkout_59 : decode prog_1_method_8_code 59 = .ok (.iload 4, 2) := by decide +kernel
theorem d_V_checkout_61 : decode prog_1_method_8_code 61 = .ok (.invokevirtual 87, 3) := by decide +kernel
theorem d_V_checkout_64 : decode prog_1_method_8_code 64 = .ok (.iload 4, 2) := by decide +kernel
theorem d_V_checkout_66 : decode prog_1_method_8_code 66 = .ok (.ireturn, 1) := by decide +kernel
theorem d_V_isClean_0 : decode prog_1_method_27_code 0 = .ok (.aload_n 1, 1) := by decide +kernel
theorem d_V_isClean_1 : decode prog_1_method_27_code 1 = .ok (.invokevirtual 52, 3) := by decide +kernel
theorem d_V_isClean_4 : decode prog_1_method_27_code 4 = .ok (.istore_n 2, 1) := by decide +kernel
theorem d_V_isClean_5 : decode prog_1_method_27_code 5 = .ok (.aload_n 0, 1) := by decide +kernel
theorem d_V_isClean_6 : decode prog_1_method_27_code 6 = .ok (.getfield 10, 3) := by decide +kernel
theorem d_V_isClean_9 : decode prog_1_method_27_code 9 = .ok (.iload_n 2, 1) := by decide +kernel
theorem d_V_isClean_10 : decode prog_1_method_27_code 10 = .ok (.aload_n 1, 1) := by decide +kernel
theorem d_V_isClean_11 : decode prog_1_method_27_code 11 = .ok (.getfield 37, 3) := by decide +kernel
theorem d_V_isClean_14 : decode prog_1_method_27_code 14 = .ok (.invokevirtual 56, 3) := by decide +kernel
theorem d_V_isClean_17 : decode prog_1_method_27_code 17 = .ok (.ifCond .eq 22, 3) := by decide +kernel
theorem d_V_isClean_20 : decode prog_1_method_27_code 20 = .ok (.aload_n 0, 1) := by decide +kernel
theorem d_V_isClean_21 : decode prog_1_method_27_code 21 = .ok (.getfield 10, 3) := by decide +kernel
theorem d_V_isClean_24 : decode prog_1_method_27_code 24 = .ok (.iload_n 2, 1) := by decide +kernel
theorem d_V_isClean_25 : decode prog_1_method_27_code 25 = .ok (.aload_n 1, 1) := by decide +kernel
theorem d_V_isClean_26 : decode prog_1_method_27_code 26 = .ok (.getfield 49, 3) := by decide +kernel
theorem d_V_isClean_29 : decode prog_1_method_27_code 29 = .ok (.invokevirtual 56, 3) := by decide +kernel
theorem d_V_isClean_32 : decode prog_1_method_27_code 32 = .ok (.ifCond .eq 7, 3) := by decide +kernel
theorem d_V_isClean_35 : decode prog_1_method_27_code 35 = .ok (.iconst 1, 1) := by decide +kernel
theorem d_V_isClean_36 : decode prog_1_method_27_code 36 = .ok (.goto 4, 3) := by decide +kernel
theorem d_V_isClean_39 : decode prog_1_method_27_code 39 = .ok (.iconst 0, 1) := by decide +kernel
theorem d_V_isClean_40 : decode prog_1_method_27_code 40 = .ok (.ireturn, 1) := by decide +kernel
theorem d_V_moveTo_0 : decode prog_1_method_29_code 0 = .ok (.aload_n 1, 1) := by decide +kernel
theorem d_V_moveTo_1 : decode prog_1_method_29_code 1 = .ok (.dup, 1) := by decide +kernel
theorem d_V_moveTo_2 : decode prog_1_method_29_code 2 = .ok (.getfield 64, 3) := by decide +kernel
theorem d_V_moveTo_5 : decode prog_1_method_29_code 5 = .ok (.aload_n 0, 1) := by decide +kernel
theorem d_V_moveTo_6 : decode prog_1_method_29_code 6 = .ok (.getfield 10, 3) := by decide +kernel
theorem d_V_moveTo_9 : decode prog_1_method_29_code 9 = .ok (.iload_n 2, 1) := by decide +kernel
theorem d_V_moveTo_10 : decode prog_1_method_29_code 10 = .ok (.invokevirtual 68, 3) := by decide +kernel
theorem d_V_moveTo_13 : decode prog_1_method_29_code 13 = .ok (.lor, 1) := by decide +kernel
theorem d_V_moveTo_14 : decode prog_1_method_29_code 14 = .ok (.putfield 64, 3) := by decide +kernel
theorem d_V_moveTo_17 : decode prog_1_method_29_code 17 = .ok (.aload_n 1, 1) := by decide +kernel
theorem d_V_moveTo_18 : decode prog_1_method_29_code 18 = .ok (.getfield 72, 3) := by decide +kernel
theorem d_V_moveTo_21 : decode prog_1_method_29_code 21 = .ok (.aload_n 1, 1) := by decide +kernel
theorem d_V_moveTo_22 : decode prog_1_method_29_code 22 = .ok (.getfield 76, 3) := by decide +kernel
theorem d_V_moveTo_25 : decode prog_1_method_29_code 25 = .ok (.iload_n 2, 1) := by decide +kernel
theorem d_V_moveTo_26 : decode prog_1_method_29_code 26 = .ok (.iastore, 1) := by decide +kernel
theorem d_V_moveTo_27 : decode prog_1_method_29_code 27 = .ok (.aload_n 0, 1) := by decide +kernel
theorem d_V_moveTo_28 : decode prog_1_method_29_code 28 = .ok (.getfield 10, 3) := by decide +kernel
theorem d_V_moveTo_31 : decode prog_1_method_29_code 31 = .ok (.iload_n 2, 1) := by decide +kernel
theorem d_V_moveTo_32 : decode prog_1_method_29_code 32 = .ok (.aload_n 1, 1) := by decide +kernel
theorem d_V_moveTo_33 : decode prog_1_method_29_code 33 = .ok (.getfield 37, 3) := by decide +kernel
theorem d_V_moveTo_36 : decode prog_1_method_29_code 36 = .ok (.invokevirtual 149, 3) := by decide +kernel
theorem d_V_moveTo_39 : decode prog_1_method_29_code 39 = .ok (.aload_n 0, 1) := by decide +kernel
theorem d_V_moveTo_40 : decode prog_1_method_29_code 40 = .ok (.getfield 10, 3) := by decide +kernel
theorem d_V_moveTo_43 : decode prog_1_method_29_code 43 = .ok (.iload_n 2, 1) := by decide +kernel
theorem d_V_moveTo_44 : decode prog_1_method_29_code 44 = .ok (.aload_n 1, 1) := by decide +kernel
theorem d_V_moveTo_45 : decode prog_1_method_29_code 45 = .ok (.getfield 49, 3) := by decide +kernel
theorem d_V_moveTo_48 : decode prog_1_method_29_code 48 = .ok (.invokevirtual 149, 3) := by decide +kernel
theorem d_V_moveTo_51 : decode prog_1_method_29_code 51 = .ok (.return_, 1) := by decide +kernel
theorem d_V_merge_0 : decode prog_1_method_9_code 0 = .ok (.aload_n 0, 1) := by decide +kernel
theorem d_V_merge_1 : decode prog_1_method_9_code 1 = .ok (.iload_n 1, 1) := by decide +kernel
theorem d_V_merge_2 : decode prog_1_method_9_code 2 = .ok (.iload_n 2, 1) := by decide +kernel
theorem d_V_merge_3 : decode prog_1_method_9_code 3 = .ok (.invokevirtual 91, 3) := by decide +kernel
theorem d_V_merge_6 : decode prog_1_method_9_code 6 = .ok (.istore_n 3, 1) := by decide +kernel
theorem d_V_merge_7 : decode prog_1_method_9_code 7 = .ok (.iload_n 3, 1) := by decide +kernel
theorem d_V_merge_8 : decode prog_1_method_9_code 8 = .ok (.ifCond .eq 5, 3) := by decide +kernel
theorem d_V_merge_11 : decode prog_1_method_9_code 11 = .ok (.iload_n 3, 1) := by decide +kernel
theorem d_V_merge_12 : decode prog_1_method_9_code 12 = .ok (.ireturn, 1) := by decide +kernel
theorem d_V_merge_13 : decode prog_1_method_9_code 13 = .ok (.aload_n 0, 1) := by decide +kernel
theorem d_V_merge_14 : decode prog_1_method_9_code 14 = .ok (.getfield 18, 3) := by decide +kernel
theorem d_V_merge_17 : decode prog_1_method_9_code 17 = .ok (.iload_n 1, 1) := by decide +kernel
theorem d_V_merge_18 : decode prog_1_method_9_code 18 = .ok (.aaload, 1) := by decide +kernel
theorem d_V_merge_19 : decode prog_1_method_9_code 19 = .ok (.astore 4, 2) := by decide +kernel
theorem d_V_merge_21 : decode prog_1_method_9_code 21 = .ok (.aload 4, 2) := by decide +kernel
theorem d_V_merge_23 : decode prog_1_method_9_code 23 = .ok (.invokevirtual 52, 3) := by decide +kernel
theorem d_V_merge_26 : decode prog_1_method_9_code 26 = .ok (.istore 5, 2) := by decide +kernel
theorem d_V_merge_28 : decode prog_1_method_9_code 28 = .ok (.aload 4, 2) := by decide +kernel
theorem d_V_merge_30 : decode prog_1_method_9_code 30 = .ok (.getfield 72, 3) := by decide +kernel
theorem d_V_merge_33 : decode prog_1_method_9_code 33 = .ok (.iload_n 2, 1) := by decide +kernel
theorem d_V_merge_34 : decode prog_1_method_9_code 34 = .ok (.iaload, 1) := by decide +kernel
theorem d_V_merge_35 : decode prog_1_method_9_code 35 = .ok (.istore 6, 2) := by decide +kernel
theorem d_V_merge_37 : decode prog_1_method_9_code 37 = .ok (.aload_n 0, 1) := by decide +kernel
theorem d_V_merge_38 : decode prog_1_method_9_code 38 = .ok (.getfield 10, 3) := by decide +kernel
theorem d_V_merge_41 : decode prog_1_method_9_code 41 = .ok (.iload 5, 2) := by decide +kernel
theorem d_V_merge_43 : decode prog_1_method_9_code 43 = .ok (.iload 6, 2) := by decide +kernel
theorem d_V_merge_45 : decode prog_1_method_9_code 45 = .ok (.invokevirtual 95, 3) := by decide +kernel
theorem d_V_merge_48 : decode prog_1_method_9_code 48 = .ok (.ifCond .eq 6, 3) := by decide +kernel
theorem d_V_merge_51 : decode prog_1_method_9_code 51 = .ok (.bipush (-4), 2) := by decide +kernel
theorem d_V_merge_53 : decode prog_1_method_9_code 53 = .ok (.ireturn, 1) := by decide +kernel
theorem d_V_merge_54 : decode prog_1_method_9_code 54 = .ok (.aload_n 0, 1) := by decide +kernel
theorem d_V_merge_55 : decode prog_1_method_9_code 55 = .ok (.getfield 10, 3) := by decide +kernel
theorem d_V_merge_58 : decode prog_1_method_9_code 58 = .ok (.iload 6, 2) := by decide +kernel
theorem d_V_merge_60 : decode prog_1_method_9_code 60 = .ok (.iload 5, 2) := by decide +kernel
theorem d_V_merge_62 : decode prog_1_method_9_code 62 = .ok (.invokevirtual 95, 3) := by decide +kernel
theorem d_V_merge_65 : decode prog_1_method_9_code 65 = .ok (.ifCond .eq 8, 3) := by decide +kernel
theorem d_V_merge_68 : decode prog_1_method_9_code 68 = .ok (.iload 6, 2) := by decide +kernel
theorem d_V_merge_70 : decode prog_1_method_9_code 70 = .ok (.goto 11, 3) := by decide +kernel
theorem d_V_merge_73 : decode prog_1_method_9_code 73 = .ok (.aload_n 0, 1) := by decide +kernel
theorem d_V_merge_74 : decode prog_1_method_9_code 74 = .ok (.iload 5, 2) := by decide +kernel
theorem d_V_merge_76 : decode prog_1_method_9_code 76 = .ok (.iload 6, 2) := by decide +kernel
theorem d_V_merge_78 : decode prog_1_method_9_code 78 = .ok (.invokevirtual 99, 3) := by decide +kernel
theorem d_V_merge_81 : decode prog_1_method_9_code 81 = .ok (.istore 7, 2) := by decide +kernel
theorem d_V_merge_83 : decode prog_1_method_9_code 83 = .ok (.iload 7, 2) := by decide +kernel
theorem d_V_merge_85 : decode prog_1_method_9_code 85 = .ok (.ifCond .lt 11, 3) := by decide +kernel
theorem d_V_merge_88 : decode prog_1_method_9_code 88 = .ok (.aload_n 0, 1) := by decide +kernel
theorem d_V_merge_89 : decode prog_1_method_9_code 89 = .ok (.aload 4, 2) := by decide +kernel
theorem d_V_merge_91 : decode prog_1_method_9_code 91 = .ok (.iload 7, 2) := by decide +kernel
theorem d_V_merge_93 : decode prog_1_method_9_code 93 = .ok (.invokevirtual 87, 3) := by decide +kernel
theorem d_V_merge_96 : decode prog_1_method_9_code 96 = .ok (.iload 7, 2) := by decide +kernel
theorem d_V_merge_98 : decode prog_1_method_9_code 98 = .ok (.ireturn, 1) := by decide +kernel
theorem d_V_refusalToChangeHead_0 : decode prog_1_method_28_code 0 = .ok (.iload_n 1, 1) := by decide +kernel
theorem d_V_refusalToChangeHead_1 : decode prog_1_method_28_code 1 = .ok (.invokestatic 30, 3) := by decide +kernel
theorem d_V_refusalToChangeHead_4 : decode prog_1_method_28_code 4 = .ok (.ifCond .eq 10, 3) := by decide +kernel
theorem d_V_refusalToChangeHead_7 : decode prog_1_method_28_code 7 = .ok (.iload_n 2, 1) := by decide +kernel
theorem d_V_refusalToChangeHead_8 : decode prog_1_method_28_code 8 = .ok (.invokestatic 80, 3) := by decide +kernel
theorem d_V_refusalToChangeHead_11 : decode prog_1_method_28_code 11 = .ok (.ifCond .ne 5, 3) := by decide +kernel
theorem d_V_refusalToChangeHead_14 : decode prog_1_method_28_code 14 = .ok (.iconst (-1), 1) := by decide +kernel
theorem d_V_refusalToChangeHead_15 : decode prog_1_method_28_code 15 = .ok (.ireturn, 1) := by decide +kernel
theorem d_V_refusalToChangeHead_16 : decode prog_1_method_28_code 16 = .ok (.aload_n 0, 1) := by decide +kernel
theorem d_V_refusalToChangeHead_17 : decode prog_1_method_28_code 17 = .ok (.getfield 18, 3) := by decide +kernel
theorem d_V_refusalToChangeHead_20 : decode prog_1_method_28_code 20 = .ok (.iload_n 1, 1) := by decide +kernel
theorem d_V_refusalToChangeHead_21 : decode prog_1_method_28_code 21 = .ok (.aaload, 1) := by decide +kernel
theorem d_V_refusalToChangeHead_22 : decode prog_1_method_28_code 22 = .ok (.astore_n 3, 1) := by decide +kernel
theorem d_V_refusalToChangeHead_23 : decode prog_1_method_28_code 23 = .ok (.aload_n 3, 1) := by decide +kernel
theorem d_V_refusalToChangeHead_24 : decode prog_1_method_28_code 24 = .ok (.getfield 72, 3) := by decide +kernel
theorem d_V_refusalToChangeHead_27 : decode prog_1_method_28_code 27 = .ok (.iload_n 2, 1) := by decide +kernel
theorem d_V_refusalToChangeHead_28 : decode prog_1_method_28_code 28 = .ok (.iaload, 1) := by decide +kernel
theorem d_V_refusalToChangeHead_29 : decode prog_1_method_28_code 29 = .ok (.bipush (-2), 2) := by decide +kernel
theorem d_V_refusalToChangeHead_31 : decode prog_1_method_28_code 31 = .ok (.if_icmp .eq 12, 3) := by decide +kernel
theorem d_V_refusalToChangeHead_34 : decode prog_1_method_28_code 34 = .ok (.aload_n 3, 1) := by decide +kernel
theorem d_V_refusalToChangeHead_35 : decode prog_1_method_28_code 35 = .ok (.invokevirtual 52, 3) := by decide +kernel
theorem d_V_refusalToChangeHead_38 : decode prog_1_method_28_code 38 = .ok (.bipush (-2), 2) := by decide +kernel
theorem d_V_refusalToChangeHead_40 : decode prog_1_method_28_code 40 = .ok (.if_icmp .ne 6, 3) := by decide +kernel
theorem d_V_refusalToChangeHead_43 : decode prog_1_method_28_code 43 = .ok (.bipush (-2), 2) := by decide +kernel
theorem d_V_refusalToChangeHead_45 : decode prog_1_method_28_code 45 = .ok (.ireturn, 1) := by decide +kernel
theorem d_V_refusalToChangeHead_46 : decode prog_1_method_28_code 46 = .ok (.aload_n 0, 1) := by decide +kernel
theorem d_V_refusalToChangeHead_47 : decode prog_1_method_28_code 47 = .ok (.aload_n 3, 1) := by decide +kernel
theorem d_V_refusalToChangeHead_48 : decode prog_1_method_28_code 48 = .ok (.invokevirtual 83, 3) := by decide +kernel
theorem d_V_refusalToChangeHead_51 : decode prog_1_method_28_code 51 = .ok (.ifCond .eq 7, 3) := by decide +kernel
theorem d_V_refusalToChangeHead_54 : decode prog_1_method_28_code 54 = .ok (.iconst 0, 1) := by decide +kernel
theorem d_V_refusalToChangeHead_55 : decode prog_1_method_28_code 55 = .ok (.goto 5, 3) := by decide +kernel
theorem d_V_refusalToChangeHead_58 : decode prog_1_method_28_code 58 = .ok (.bipush (-3), 2) := by decide +kernel
theorem d_V_refusalToChangeHead_60 : decode prog_1_method_28_code 60 = .ok (.ireturn, 1) := by decide +kernel
theorem d_V_joinCommits_0 : decode prog_1_method_30_code 0 = .ok (.aload_n 0, 1) := by decide +kernel
theorem d_V_joinCommits_1 : decode prog_1_method_30_code 1 = .ok (.getfield 26, 3) := by decide +kernel
theorem d_V_joinCommits_4 : decode prog_1_method_30_code 4 = .ok (.aload_n 0, 1) := by decide +kernel
theorem d_V_joinCommits_5 : decode prog_1_method_30_code 5 = .ok (.getfield 10, 3) := by decide +kernel
theorem d_V_joinCommits_8 : decode prog_1_method_30_code 8 = .ok (.aload_n 0, 1) := by decide +kernel
theorem d_V_joinCommits_9 : decode prog_1_method_30_code 9 = .ok (.getfield 10, 3) := by decide +kernel
theorem d_V_joinCommits_12 : decode prog_1_method_30_code 12 = .ok (.iload_n 1, 1) := by decide +kernel
theorem d_V_joinCommits_13 : decode prog_1_method_30_code 13 = .ok (.iload_n 2, 1) := by decide +kernel
theorem d_V_joinCommits_14 : decode prog_1_method_30_code 14 = .ok (.invokevirtual 142, 3) := by decide +kernel
theorem d_V_joinCommits_17 : decode prog_1_method_30_code 17 = .ok (.iload_n 1, 1) := by decide +kernel
theorem d_V_joinCommits_18 : decode prog_1_method_30_code 18 = .ok (.iload_n 2, 1) := by decide +kernel
theorem d_V_joinCommits_19 : decode prog_1_method_30_code 19 = .ok (.invokevirtual 153, 3) := by decide +kernel
theorem d_V_joinCommits_22 : decode prog_1_method_30_code 22 = .ok (.ifCond .ne 6, 3) := by decide +kernel
theorem d_V_joinCommits_25 : decode prog_1_method_30_code 25 = .ok (.bipush (-5), 2) := by decide +kernel
theorem d_V_joinCommits_27 : decode prog_1_method_30_code 27 = .ok (.ireturn, 1) := by decide +kernel
theorem d_V_joinCommits_28 : decode prog_1_method_30_code 28 = .ok (.aload_n 0, 1) := by decide +kernel
theorem d_V_joinCommits_29 : decode prog_1_method_30_code 29 = .ok (.getfield 10, 3) := by decide +kernel
theorem d_V_joinCommits_32 : decode prog_1_method_30_code 32 = .ok (.aload_n 0, 1) := by decide +kernel
theorem d_V_joinCommits_33 : decode prog_1_method_30_code 33 = .ok (.getfield 26, 3) := by decide +kernel
theorem d_V_joinCommits_36 : decode prog_1_method_30_code 36 = .ok (.getfield 157, 3) := by decide +kernel
theorem d_V_joinCommits_39 : decode prog_1_method_30_code 39 = .ok (.iload_n 1, 1) := by decide +kernel
theorem d_V_joinCommits_40 : decode prog_1_method_30_code 40 = .ok (.iload_n 2, 1) := by decide +kernel
theorem d_V_joinCommits_41 : decode prog_1_method_30_code 41 = .ok (.invokevirtual 60, 3) := by decide +kernel
theorem d_V_joinCommits_44 : decode prog_1_method_30_code 44 = .ok (.ireturn, 1) := by decide +kernel
theorem d_V_pick_0 : decode prog_1_method_10_code 0 = .ok (.iload_n 1, 1) := by decide +kernel
theorem d_V_pick_1 : decode prog_1_method_10_code 1 = .ok (.invokestatic 30, 3) := by decide +kernel
theorem d_V_pick_4 : decode prog_1_method_10_code 4 = .ok (.ifCond .ne 5, 3) := by decide +kernel
theorem d_V_pick_7 : decode prog_1_method_10_code 7 = .ok (.iconst (-1), 1) := by decide +kernel
theorem d_V_pick_8 : decode prog_1_method_10_code 8 = .ok (.ireturn, 1) := by decide +kernel
theorem d_V_pick_9 : decode prog_1_method_10_code 9 = .ok (.aload_n 0, 1) := by decide +kernel
theorem d_V_pick_10 : decode prog_1_method_10_code 10 = .ok (.getfield 18, 3) := by decide +kernel
theorem d_V_pick_13 : decode prog_1_method_10_code 13 = .ok (.iload_n 1, 1) := by decide +kernel
theorem d_V_pick_14 : decode prog_1_method_10_code 14 = .ok (.aaload, 1) := by decide +kernel
theorem d_V_pick_15 : decode prog_1_method_10_code 15 = .ok (.astore_n 3, 1) := by decide +kernel
theorem d_V_pick_16 : decode prog_1_method_10_code 16 = .ok (.aload_n 0, 1) := by decide +kernel
theorem d_V_pick_17 : decode prog_1_method_10_code 17 = .ok (.aload_n 3, 1) := by decide +kernel
theorem d_V_pick_18 : decode prog_1_method_10_code 18 = .ok (.iload_n 2, 1) := by decide +kernel
theorem d_V_pick_19 : decode prog_1_method_10_code 19 = .ok (.invokevirtual 102, 3) := by decide +kernel
theorem d_V_pick_22 : decode prog_1_method_10_code 22 = .ok (.ifCond .eq 12, 3) := by decide +kernel
theorem d_V_pick_25 : decode prog_1_method_10_code 25 = .ok (.aload_n 3, 1) := by decide +kernel
theorem d_V_pick_26 : decode prog_1_method_10_code 26 = .ok (.invokevirtual 52, 3) := by decide +kernel
theorem d_V_pick_29 : decode prog_1_method_10_code 29 = .ok (.bipush (-2), 2) := by decide +kernel
theorem d_V_pick_31 : decode prog_1_method_10_code 31 = .ok (.if_icmp .ne 6, 3) := by decide +kernel
theorem d_V_pick_34 : decode prog_1_method_10_code 34 = .ok (.bipush (-2), 2) := by decide +kernel
theorem d_V_pick_36 : decode prog_1_method_10_code 36 = .ok (.ireturn, 1) := by decide +kernel
theorem d_V_pick_37 : decode prog_1_method_10_code 37 = .ok (.aload_n 0, 1) := by decide +kernel
theorem d_V_pick_38 : decode prog_1_method_10_code 38 = .ok (.aload_n 3, 1) := by decide +kernel
theorem d_V_pick_39 : decode prog_1_method_10_code 39 = .ok (.invokevirtual 83, 3) := by decide +kernel
theorem d_V_pick_42 : decode prog_1_method_10_code 42 = .ok (.ifCond .ne 6, 3) := by decide +kernel
theorem d_V_pick_45 : decode prog_1_method_10_code 45 = .ok (.bipush (-3), 2) := by decide +kernel
theorem d_V_pick_47 : decode prog_1_method_10_code 47 = .ok (.ireturn, 1) := by decide +kernel
theorem d_V_pick_48 : decode prog_1_method_10_code 48 = .ok (.aload_n 0, 1) := by decide +kernel
theorem d_V_pick_49 : decode prog_1_method_10_code 49 = .ok (.iload_n 2, 1) := by decide +kernel
theorem d_V_pick_50 : decode prog_1_method_10_code 50 = .ok (.aload_n 3, 1) := by decide +kernel
theorem d_V_pick_51 : decode prog_1_method_10_code 51 = .ok (.invokevirtual 52, 3) := by decide +kernel
theorem d_V_pick_54 : decode prog_1_method_10_code 54 = .ok (.invokevirtual 106, 3) := by decide +kernel
theorem d_V_pick_57 : decode prog_1_method_10_code 57 = .ok (.istore 4, 2) := by decide +kernel
theorem d_V_pick_59 : decode prog_1_method_10_code 59 = .ok (.iload 4, 2) := by decide +kernel
theorem d_V_pick_61 : decode prog_1_method_10_code 61 = .ok (.ifCond .lt 10, 3) := by decide +kernel
theorem d_V_pick_64 : decode prog_1_method_10_code 64 = .ok (.aload_n 0, 1) := by decide +kernel
theorem d_V_pick_65 : decode prog_1_method_10_code 65 = .ok (.aload_n 3, 1) := by decide +kernel
theorem d_V_pick_66 : decode prog_1_method_10_code 66 = .ok (.iload 4, 2) := by decide +kernel
theorem d_V_pick_68 : decode prog_1_method_10_code 68 = .ok (.invokevirtual 87, 3) := by decide +kernel
theorem d_V_pick_71 : decode prog_1_method_10_code 71 = .ok (.iload 4, 2) := by decide +kernel
theorem d_V_pick_73 : decode prog_1_method_10_code 73 = .ok (.ireturn, 1) := by decide +kernel
theorem d_V_isHeld_0 : decode prog_1_method_26_code 0 = .ok (.aload_n 0, 1) := by decide +kernel
theorem d_V_isHeld_1 : decode prog_1_method_26_code 1 = .ok (.getfield 10, 3) := by decide +kernel
theorem d_V_isHeld_4 : decode prog_1_method_26_code 4 = .ok (.iload_n 2, 1) := by decide +kernel
theorem d_V_isHeld_5 : decode prog_1_method_26_code 5 = .ok (.invokevirtual 128, 3) := by decide +kernel
theorem d_V_isHeld_8 : decode prog_1_method_26_code 8 = .ok (.ifCond .eq 18, 3) := by decide +kernel
theorem d_V_isHeld_11 : decode prog_1_method_26_code 11 = .ok (.aload_n 1, 1) := by decide +kernel
theorem d_V_isHeld_12 : decode prog_1_method_26_code 12 = .ok (.getfield 64, 3) := by decide +kernel
theorem d_V_isHeld_15 : decode prog_1_method_26_code 15 = .ok (.iload_n 2, 1) := by decide +kernel
theorem d_V_isHeld_16 : decode prog_1_method_26_code 16 = .ok (.invokestatic 145, 3) := by decide +kernel
theorem d_V_isHeld_19 : decode prog_1_method_26_code 19 = .ok (.ifCond .eq 7, 3) := by decide +kernel
theorem d_V_isHeld_22 : decode prog_1_method_26_code 22 = .ok (.iconst 1, 1) := by decide +kernel
theorem d_V_isHeld_23 : decode prog_1_method_26_code 23 = .ok (.goto 4, 3) := by decide +kernel
theorem d_V_isHeld_26 : decode prog_1_method_26_code 26 = .ok (.iconst 0, 1) := by decide +kernel
theorem d_V_isHeld_27 : decode prog_1_method_26_code 27 = .ok (.ireturn, 1) := by decide +kernel
theorem d_V_doAgain_0 : decode prog_1_method_31_code 0 = .ok (.aload_n 0, 1) := by decide +kernel
theorem d_V_doAgain_1 : decode prog_1_method_31_code 1 = .ok (.getfield 10, 3) := by decide +kernel
theorem d_V_doAgain_4 : decode prog_1_method_31_code 4 = .ok (.iload_n 1, 1) := by decide +kernel
theorem d_V_doAgain_5 : decode prog_1_method_31_code 5 = .ok (.invokevirtual 135, 3) := by decide +kernel
theorem d_V_doAgain_8 : decode prog_1_method_31_code 8 = .ok (.bipush (-2), 2) := by decide +kernel
theorem d_V_doAgain_10 : decode prog_1_method_31_code 10 = .ok (.if_icmp .eq 6, 3) := by decide +kernel
theorem d_V_doAgain_13 : decode prog_1_method_31_code 13 = .ok (.bipush (-4), 2) := by decide +kernel
theorem d_V_doAgain_15 : decode prog_1_method_31_code 15 = .ok (.ireturn, 1) := by decide +kernel
theorem d_V_doAgain_16 : decode prog_1_method_31_code 16 = .ok (.aload_n 0, 1) := by decide +kernel
theorem d_V_doAgain_17 : decode prog_1_method_31_code 17 = .ok (.getfield 26, 3) := by decide +kernel
theorem d_V_doAgain_20 : decode prog_1_method_31_code 20 = .ok (.aload_n 0, 1) := by decide +kernel
theorem d_V_doAgain_21 : decode prog_1_method_31_code 21 = .ok (.getfield 10, 3) := by decide +kernel
theorem d_V_doAgain_24 : decode prog_1_method_31_code 24 = .ok (.aload_n 0, 1) := by decide +kernel
theorem d_V_doAgain_25 : decode prog_1_method_31_code 25 = .ok (.getfield 10, 3) := by decide +kernel
theorem d_V_doAgain_28 : decode prog_1_method_31_code 28 = .ok (.iload_n 1, 1) := by decide +kernel
theorem d_V_doAgain_29 : decode prog_1_method_31_code 29 = .ok (.invokevirtual 131, 3) := by decide +kernel
theorem d_V_doAgain_32 : decode prog_1_method_31_code 32 = .ok (.iload_n 2, 1) := by decide +kernel
theorem d_V_doAgain_33 : decode prog_1_method_31_code 33 = .ok (.iload_n 1, 1) := by decide +kernel
theorem d_V_doAgain_34 : decode prog_1_method_31_code 34 = .ok (.invokevirtual 153, 3) := by decide +kernel
theorem d_V_doAgain_37 : decode prog_1_method_31_code 37 = .ok (.ifCond .ne 6, 3) := by decide +kernel
theorem d_V_doAgain_40 : decode prog_1_method_31_code 40 = .ok (.bipush (-5), 2) := by decide +kernel
theorem d_V_doAgain_42 : decode prog_1_method_31_code 42 = .ok (.ireturn, 1) := by decide +kernel
theorem d_V_doAgain_43 : decode prog_1_method_31_code 43 = .ok (.aload_n 0, 1) := by decide +kernel
theorem d_V_doAgain_44 : decode prog_1_method_31_code 44 = .ok (.getfield 10, 3) := by decide +kernel
theorem d_V_doAgain_47 : decode prog_1_method_31_code 47 = .ok (.iload_n 2, 1) := by decide +kernel
theorem d_V_doAgain_48 : decode prog_1_method_31_code 48 = .ok (.aload_n 0, 1) := by decide +kernel
theorem d_V_doAgain_49 : decode prog_1_method_31_code 49 = .ok (.getfield 26, 3) := by decide +kernel
theorem d_V_doAgain_52 : decode prog_1_method_31_code 52 = .ok (.getfield 157, 3) := by decide +kernel
theorem d_V_doAgain_55 : decode prog_1_method_31_code 55 = .ok (.invokevirtual 56, 3) := by decide +kernel
theorem d_V_doAgain_58 : decode prog_1_method_31_code 58 = .ok (.ifCond .eq 6, 3) := by decide +kernel
theorem d_V_doAgain_61 : decode prog_1_method_31_code 61 = .ok (.bipush (-4), 2) := by decide +kernel
theorem d_V_doAgain_63 : decode prog_1_method_31_code 63 = .ok (.ireturn, 1) := by decide +kernel
theorem d_V_doAgain_64 : decode prog_1_method_31_code 64 = .ok (.aload_n 0, 1) := by decide +kernel
theorem d_V_doAgain_65 : decode prog_1_method_31_code 65 = .ok (.getfield 10, 3) := by decide +kernel
theorem d_V_doAgain_68 : decode prog_1_method_31_code 68 = .ok (.aload_n 0, 1) := by decide +kernel
theorem d_V_doAgain_69 : decode prog_1_method_31_code 69 = .ok (.getfield 26, 3) := by decide +kernel
theorem d_V_doAgain_72 : decode prog_1_method_31_code 72 = .ok (.getfield 157, 3) := by decide +kernel
theorem d_V_doAgain_75 : decode prog_1_method_31_code 75 = .ok (.iload_n 2, 1) := by decide +kernel
theorem d_V_doAgain_76 : decode prog_1_method_31_code 76 = .ok (.bipush (-2), 2) := by decide +kernel
theorem d_V_doAgain_78 : decode prog_1_method_31_code 78 = .ok (.invokevirtual 60, 3) := by decide +kernel
theorem d_V_doAgain_81 : decode prog_1_method_31_code 81 = .ok (.ireturn, 1) := by decide +kernel
theorem d_V_rebase_0 : decode prog_1_method_11_code 0 = .ok (.aload_n 0, 1) := by decide +kernel
theorem d_V_rebase_1 : decode prog_1_method_11_code 1 = .ok (.iload_n 1, 1) := by decide +kernel
theorem d_V_rebase_2 : decode prog_1_method_11_code 2 = .ok (.iload_n 2, 1) := by decide +kernel
theorem d_V_rebase_3 : decode prog_1_method_11_code 3 = .ok (.invokevirtual 91, 3) := by decide +kernel
theorem d_V_rebase_6 : decode prog_1_method_11_code 6 = .ok (.istore_n 3, 1) := by decide +kernel
theorem d_V_rebase_7 : decode prog_1_method_11_code 7 = .ok (.iload_n 3, 1) := by decide +kernel
theorem d_V_rebase_8 : decode prog_1_method_11_code 8 = .ok (.ifCond .eq 5, 3) := by decide +kernel
theorem d_V_rebase_11 : decode prog_1_method_11_code 11 = .ok (.iload_n 3, 1) := by decide +kernel
theorem d_V_rebase_12 : decode prog_1_method_11_code 12 = .ok (.ireturn, 1) := by decide +kernel
theorem d_V_rebase_13 : decode prog_1_method_11_code 13 = .ok (.aload_n 0, 1) := by decide +kernel
theorem d_V_rebase_14 : decode prog_1_method_11_code 14 = .ok (.getfield 18, 3) := by decide +kernel
theorem d_V_rebase_17 : decode prog_1_method_11_code 17 = .ok (.iload_n 1, 1) := by decide +kernel
theorem d_V_rebase_18 : decode prog_1_method_11_code 18 = .ok (.aaload, 1) := by decide +kernel
theorem d_V_rebase_19 : decode prog_1_method_11_code 19 = .ok (.astore 4, 2) := by decide +kernel
theorem d_V_rebase_21 : decode prog_1_method_11_code 21 = .ok (.aload 4, 2) := by decide +kernel
theorem d_V_rebase_23 : decode prog_1_method_11_code 23 = .ok (.getfield 72, 3) := by decide +kernel
theorem d_V_rebase_26 : decode prog_1_method_11_code 26 = .ok (.iload_n 2, 1) := by decide +kernel
theorem d_V_rebase_27 : decode prog_1_method_11_code 27 = .ok (.iaload, 1) := by decide +kernel
theorem d_V_rebase_28 : decode prog_1_method_11_code 28 = .ok (.istore 5, 2) := by decide +kernel
theorem d_V_rebase_30 : decode prog_1_method_11_code 30 = .ok (.aload_n 0, 1) := by decide +kernel
theorem d_V_rebase_31 : decode prog_1_method_11_code 31 = .ok (.getfield 10, 3) := by decide +kernel
theorem d_V_rebase_34 : decode prog_1_method_11_code 34 = .ok (.aload 4, 2) := by decide +kernel
theorem d_V_rebase_36 : decode prog_1_method_11_code 36 = .ok (.invokevirtual 52, 3) := by decide +kernel
theorem d_V_rebase_39 : decode prog_1_method_11_code 39 = .ok (.invokevirtual 68, 3) := by decide +kernel
theorem d_V_rebase_42 : decode prog_1_method_11_code 42 = .ok (.aload_n 0, 1) := by decide +kernel
theorem d_V_rebase_43 : decode prog_1_method_11_code 43 = .ok (.getfield 10, 3) := by decide +kernel
theorem d_V_rebase_46 : decode prog_1_method_11_code 46 = .ok (.iload 5, 2) := by decide +kernel
theorem d_V_rebase_48 : decode prog_1_method_11_code 48 = .ok (.invokevirtual 68, 3) := by decide +kernel
theorem d_V_rebase_51 : decode prog_1_method_11_code 51 = .ok (.ldc2_w 109, 3) := by decide +kernel
theorem d_V_rebase_54 : decode prog_1_method_11_code 54 = .ok (.lxor, 1) := by decide +kernel
theorem d_V_rebase_55 : decode prog_1_method_11_code 55 = .ok (.land, 1) := by decide +kernel
theorem d_V_rebase_56 : decode prog_1_method_11_code 56 = .ok (.lstore 6, 2) := by decide +kernel
theorem d_V_rebase_58 : decode prog_1_method_11_code 58 = .ok (.aload_n 0, 1) := by decide +kernel
theorem d_V_rebase_59 : decode prog_1_method_11_code 59 = .ok (.getfield 10, 3) := by decide +kernel
theorem d_V_rebase_62 : decode prog_1_method_11_code 62 = .ok (.getfield 111, 3) := by decide +kernel
theorem d_V_rebase_65 : decode prog_1_method_11_code 65 = .ok (.istore 8, 2) := by decide +kernel
theorem d_V_rebase_67 : decode prog_1_method_11_code 67 = .ok (.aload_n 0, 1) := by decide +kernel
theorem d_V_rebase_68 : decode prog_1_method_11_code 68 = .ok (.lload 6, 2) := by decide +kernel
theorem d_V_rebase_70 : decode prog_1_method_11_code 70 = .ok (.iload 5, 2) := by decide +kernel
theorem d_V_rebase_72 : decode prog_1_method_11_code 72 = .ok (.invokevirtual 114, 3) := by decide +kernel
theorem d_V_rebase_75 : decode prog_1_method_11_code 75 = .ok (.istore 9, 2) := by decide +kernel
theorem d_V_rebase_77 : decode prog_1_method_11_code 77 = .ok (.iload 9, 2) := by decide +kernel
theorem d_V_rebase_79 : decode prog_1_method_11_code 79 = .ok (.ifCond .ge 15, 3) := by decide +kernel
theorem d_V_rebase_82 : decode prog_1_method_11_code 82 = .ok (.aload_n 0, 1) := by decide +kernel
theorem d_V_rebase_83 : decode prog_1_method_11_code 83 = .ok (.getfield 10, 3) := by decide +kernel
theorem d_V_rebase_86 : decode prog_1_method_11_code 86 = .ok (.iload 8, 2) := by decide +kernel
theorem d_V_rebase_88 : decode prog_1_method_11_code 88 = .ok (.invokevirtual 118, 3) := by decide +kernel
theorem d_V_rebase_91 : decode prog_1_method_11_code 91 = .ok (.iload 9, 2) := by decide +kernel
theorem d_V_rebase_93 : decode prog_1_method_11_code 93 = .ok (.ireturn, 1) := by decide +kernel
theorem d_V_rebase_94 : decode prog_1_method_11_code 94 = .ok (.aload_n 0, 1) := by decide +kernel
theorem d_V_rebase_95 : decode prog_1_method_11_code 95 = .ok (.aload 4, 2) := by decide +kernel
theorem d_V_rebase_97 : decode prog_1_method_11_code 97 = .ok (.iload 9, 2) := by decide +kernel
theorem d_V_rebase_99 : decode prog_1_method_11_code 99 = .ok (.invokevirtual 87, 3) := by decide +kernel
theorem d_V_rebase_102 : decode prog_1_method_11_code 102 = .ok (.aload_n 0, 1) := by decide +kernel
theorem d_V_rebase_103 : decode prog_1_method_11_code 103 = .ok (.getfield 10, 3) := by decide +kernel
theorem d_V_rebase_106 : decode prog_1_method_11_code 106 = .ok (.getfield 111, 3) := by decide +kernel
theorem d_V_rebase_109 : decode prog_1_method_11_code 109 = .ok (.iload 8, 2) := by decide +kernel
theorem d_V_rebase_111 : decode prog_1_method_11_code 111 = .ok (.isub, 1) := by decide +kernel
theorem d_V_rebase_112 : decode prog_1_method_11_code 112 = .ok (.ireturn, 1) := by decide +kernel
end
section
/-! Decode rows. (Printed by gen_names.py.) -/
theorem d_V_doAllAgain_0 : decode prog_1_method_32_code 0 = .ok (.iload_n 3, 1) := by decide +kernel
theorem d_V_doAllAgain_1 : decode prog_1_method_32_code 1 = .ok (.istore 4, 2) := by decide +kernel
theorem d_V_doAllAgain_3 : decode prog_1_method_32_code 3 = .ok (.iconst 0, 1) := by decide +kernel
theorem d_V_doAllAgain_4 : decode prog_1_method_32_code 4 = .ok (.istore 5, 2) := by decide +kernel
theorem d_V_doAllAgain_6 : decode prog_1_method_32_code 6 = .ok (.iload 5, 2) := by decide +kernel
theorem d_V_doAllAgain_8 : decode prog_1_method_32_code 8 = .ok (.bipush 40, 2) := by decide +kernel
theorem d_V_doAllAgain_10 : decode prog_1_method_32_code 10 = .ok (.if_icmp .ge 61, 3) := by decide +kernel
theorem d_V_doAllAgain_13 : decode prog_1_method_32_code 13 = .ok (.lload_n 1, 1) := by decide +kernel
theorem d_V_doAllAgain_14 : decode prog_1_method_32_code 14 = .ok (.iload 5, 2) := by decide +kernel
theorem d_V_doAllAgain_16 : decode prog_1_method_32_code 16 = .ok (.invokestatic 145, 3) := by decide +kernel
theorem d_V_doAllAgain_19 : decode prog_1_method_32_code 19 = .ok (.ifCond .eq 46, 3) := by decide +kernel
theorem d_V_doAllAgain_22 : decode prog_1_method_32_code 22 = .ok (.aload_n 0, 1) := by decide +kernel
theorem d_V_doAllAgain_23 : decode prog_1_method_32_code 23 = .ok (.iload 5, 2) := by decide +kernel
theorem d_V_doAllAgain_25 : decode prog_1_method_32_code 25 = .ok (.iload 4, 2) := by decide +kernel
theorem d_V_doAllAgain_27 : decode prog_1_method_32_code 27 = .ok (.invokevirtual 106, 3) := by decide +kernel
theorem d_V_doAllAgain_30 : decode prog_1_method_32_code 30 = .ok (.istore 6, 2) := by decide +kernel
theorem d_V_doAllAgain_32 : decode prog_1_method_32_code 32 = .ok (.iload 6, 2) := by decide +kernel
theorem d_V_doAllAgain_34 : decode prog_1_method_32_code 34 = .ok (.bipush (-5), 2) := by decide +kernel
theorem d_V_doAllAgain_36 : decode prog_1_method_32_code 36 = .ok (.if_icmp .eq 10, 3) := by decide +kernel
theorem d_V_doAllAgain_39 : decode prog_1_method_32_code 39 = .ok (.iload 6, 2) := by decide +kernel
theorem d_V_doAllAgain_41 : decode prog_1_method_32_code 41 = .ok (.bipush (-6), 2) := by decide +kernel
theorem d_V_doAllAgain_43 : decode prog_1_method_32_code 43 = .ok (.if_icmp .ne 6, 3) := by decide +kernel
theorem d_V_doAllAgain_46 : decode prog_1_method_32_code 46 = .ok (.iload 6, 2) := by decide +kernel
theorem d_V_doAllAgain_48 : decode prog_1_method_32_code 48 = .ok (.ireturn, 1) := by decide +kernel
theorem d_V_doAllAgain_49 : decode prog_1_method_32_code 49 = .ok (.iload 6, 2) := by decide +kernel
theorem d_V_doAllAgain_51 : decode prog_1_method_32_code 51 = .ok (.bipush (-4), 2) := by decide +kernel
theorem d_V_doAllAgain_53 : decode prog_1_method_32_code 53 = .ok (.if_icmp .ne 8, 3) := by decide +kernel
theorem d_V_doAllAgain_56 : decode prog_1_method_32_code 56 = .ok (.iload 4, 2) := by decide +kernel
theorem d_V_doAllAgain_58 : decode prog_1_method_32_code 58 = .ok (.goto 5, 3) := by decide +kernel
theorem d_V_doAllAgain_61 : decode prog_1_method_32_code 61 = .ok (.iload 6, 2) := by decide +kernel
theorem d_V_doAllAgain_63 : decode prog_1_method_32_code 63 = .ok (.istore 4, 2) := by decide +kernel
theorem d_V_doAllAgain_65 : decode prog_1_method_32_code 65 = .ok (.iinc 5 1, 3) := by decide +kernel
theorem d_V_doAllAgain_68 : decode prog_1_method_32_code 68 = .ok (.goto (-62), 3) := by decide +kernel
theorem d_V_doAllAgain_71 : decode prog_1_method_32_code 71 = .ok (.iload 4, 2) := by decide +kernel
theorem d_V_doAllAgain_73 : decode prog_1_method_32_code 73 = .ok (.ireturn, 1) := by decide +kernel
theorem d_V_collect_0 : decode prog_1_method_12_code 0 = .ok (.iload_n 1, 1) := by decide +kernel
theorem d_V_collect_1 : decode prog_1_method_12_code 1 = .ok (.invokestatic 30, 3) := by decide +kernel
theorem d_V_collect_4 : decode prog_1_method_12_code 4 = .ok (.ifCond .ne 5, 3) := by decide +kernel
theorem d_V_collect_7 : decode prog_1_method_12_code 7 = .ok (.iconst (-1), 1) := by decide +kernel
theorem d_V_collect_8 : decode prog_1_method_12_code 8 = .ok (.ireturn, 1) := by decide +kernel
theorem d_V_collect_9 : decode prog_1_method_12_code 9 = .ok (.aload_n 0, 1) := by decide +kernel
theorem d_V_collect_10 : decode prog_1_method_12_code 10 = .ok (.getfield 18, 3) := by decide +kernel
theorem d_V_collect_13 : decode prog_1_method_12_code 13 = .ok (.iload_n 1, 1) := by decide +kernel
theorem d_V_collect_14 : decode prog_1_method_12_code 14 = .ok (.aaload, 1) := by decide +kernel
theorem d_V_collect_15 : decode prog_1_method_12_code 15 = .ok (.astore_n 2, 1) := by decide +kernel
theorem d_V_collect_16 : decode prog_1_method_12_code 16 = .ok (.lconst 0, 1) := by decide +kernel
theorem d_V_collect_17 : decode prog_1_method_12_code 17 = .ok (.lstore_n 3, 1) := by decide +kernel
theorem d_V_collect_18 : decode prog_1_method_12_code 18 = .ok (.iconst 0, 1) := by decide +kernel
theorem d_V_collect_19 : decode prog_1_method_12_code 19 = .ok (.istore 5, 2) := by decide +kernel
theorem d_V_collect_21 : decode prog_1_method_12_code 21 = .ok (.iload 5, 2) := by decide +kernel
theorem d_V_collect_23 : decode prog_1_method_12_code 23 = .ok (.iconst 4, 1) := by decide +kernel
theorem d_V_collect_24 : decode prog_1_method_12_code 24 = .ok (.if_icmp .ge 26, 3) := by decide +kernel
theorem d_V_collect_27 : decode prog_1_method_12_code 27 = .ok (.lload_n 3, 1) := by decide +kernel
theorem d_V_collect_28 : decode prog_1_method_12_code 28 = .ok (.aload_n 0, 1) := by decide +kernel
theorem d_V_collect_29 : decode prog_1_method_12_code 29 = .ok (.getfield 10, 3) := by decide +kernel
theorem d_V_collect_32 : decode prog_1_method_12_code 32 = .ok (.aload_n 2, 1) := by decide +kernel
theorem d_V_collect_33 : decode prog_1_method_12_code 33 = .ok (.getfield 72, 3) := by decide +kernel
theorem d_V_collect_36 : decode prog_1_method_12_code 36 = .ok (.iload 5, 2) := by decide +kernel
theorem d_V_collect_38 : decode prog_1_method_12_code 38 = .ok (.iaload, 1) := by decide +kernel
theorem d_V_collect_39 : decode prog_1_method_12_code 39 = .ok (.invokevirtual 68, 3) := by decide +kernel
theorem d_V_collect_42 : decode prog_1_method_12_code 42 = .ok (.lor, 1) := by decide +kernel
theorem d_V_collect_43 : decode prog_1_method_12_code 43 = .ok (.lstore_n 3, 1) := by decide +kernel
theorem d_V_collect_44 : decode prog_1_method_12_code 44 = .ok (.iinc 5 1, 3) := by decide +kernel
theorem d_V_collect_47 : decode prog_1_method_12_code 47 = .ok (.goto (-26), 3) := by decide +kernel
theorem d_V_collect_50 : decode prog_1_method_12_code 50 = .ok (.aload_n 2, 1) := by decide +kernel
theorem d_V_collect_51 : decode prog_1_method_12_code 51 = .ok (.getfield 64, 3) := by decide +kernel
theorem d_V_collect_54 : decode prog_1_method_12_code 54 = .ok (.lload_n 3, 1) := by decide +kernel
theorem d_V_collect_55 : decode prog_1_method_12_code 55 = .ok (.ldc2_w 109, 3) := by decide +kernel
theorem d_V_collect_58 : decode prog_1_method_12_code 58 = .ok (.lxor, 1) := by decide +kernel
theorem d_V_collect_59 : decode prog_1_method_12_code 59 = .ok (.land, 1) := by decide +kernel
theorem d_V_collect_60 : decode prog_1_method_12_code 60 = .ok (.invokestatic 122, 3) := by decide +kernel
theorem d_V_collect_63 : decode prog_1_method_12_code 63 = .ok (.istore 5, 2) := by decide +kernel
theorem d_V_collect_65 : decode prog_1_method_12_code 65 = .ok (.aload_n 2, 1) := by decide +kernel
theorem d_V_collect_66 : decode prog_1_method_12_code 66 = .ok (.dup, 1) := by decide +kernel
theorem d_V_collect_67 : decode prog_1_method_12_code 67 = .ok (.getfield 64, 3) := by decide +kernel
theorem d_V_collect_70 : decode prog_1_method_12_code 70 = .ok (.lload_n 3, 1) := by decide +kernel
theorem d_V_collect_71 : decode prog_1_method_12_code 71 = .ok (.land, 1) := by decide +kernel
theorem d_V_collect_72 : decode prog_1_method_12_code 72 = .ok (.putfield 64, 3) := by decide +kernel
theorem d_V_collect_75 : decode prog_1_method_12_code 75 = .ok (.iload 5, 2) := by decide +kernel
theorem d_V_collect_77 : decode prog_1_method_12_code 77 = .ok (.ireturn, 1) := by decide +kernel
theorem d_V_send_0 : decode prog_1_method_13_code 0 = .ok (.iload_n 1, 1) := by decide +kernel
theorem d_V_send_1 : decode prog_1_method_13_code 1 = .ok (.invokestatic 30, 3) := by decide +kernel
theorem d_V_send_4 : decode prog_1_method_13_code 4 = .ok (.ifCond .eq 10, 3) := by decide +kernel
theorem d_V_send_7 : decode prog_1_method_13_code 7 = .ok (.iload_n 2, 1) := by decide +kernel
theorem d_V_send_8 : decode prog_1_method_13_code 8 = .ok (.invokestatic 80, 3) := by decide +kernel
theorem d_V_send_11 : decode prog_1_method_13_code 11 = .ok (.ifCond .ne 5, 3) := by decide +kernel
theorem d_V_send_14 : decode prog_1_method_13_code 14 = .ok (.iconst (-1), 1) := by decide +kernel
theorem d_V_send_15 : decode prog_1_method_13_code 15 = .ok (.ireturn, 1) := by decide +kernel
theorem d_V_send_16 : decode prog_1_method_13_code 16 = .ok (.aload_n 0, 1) := by decide +kernel
theorem d_V_send_17 : decode prog_1_method_13_code 17 = .ok (.getfield 18, 3) := by decide +kernel
theorem d_V_send_20 : decode prog_1_method_13_code 20 = .ok (.iload_n 1, 1) := by decide +kernel
theorem d_V_send_21 : decode prog_1_method_13_code 21 = .ok (.aaload, 1) := by decide +kernel
theorem d_V_send_22 : decode prog_1_method_13_code 22 = .ok (.getfield 72, 3) := by decide +kernel
theorem d_V_send_25 : decode prog_1_method_13_code 25 = .ok (.iload_n 2, 1) := by decide +kernel
theorem d_V_send_26 : decode prog_1_method_13_code 26 = .ok (.iaload, 1) := by decide +kernel
theorem d_V_send_27 : decode prog_1_method_13_code 27 = .ok (.istore_n 3, 1) := by decide +kernel
theorem d_V_send_28 : decode prog_1_method_13_code 28 = .ok (.iload_n 3, 1) := by decide +kernel
theorem d_V_send_29 : decode prog_1_method_13_code 29 = .ok (.bipush (-2), 2) := by decide +kernel
theorem d_V_send_31 : decode prog_1_method_13_code 31 = .ok (.if_icmp .ne 6, 3) := by decide +kernel
theorem d_V_send_34 : decode prog_1_method_13_code 34 = .ok (.bipush (-2), 2) := by decide +kernel
theorem d_V_send_36 : decode prog_1_method_13_code 36 = .ok (.ireturn, 1) := by decide +kernel
theorem d_V_send_37 : decode prog_1_method_13_code 37 = .ok (.aload_n 0, 1) := by decide +kernel
theorem d_V_send_38 : decode prog_1_method_13_code 38 = .ok (.getfield 18, 3) := by decide +kernel
theorem d_V_send_41 : decode prog_1_method_13_code 41 = .ok (.iconst 1, 1) := by decide +kernel
theorem d_V_send_42 : decode prog_1_method_13_code 42 = .ok (.iload_n 1, 1) := by decide +kernel
theorem d_V_send_43 : decode prog_1_method_13_code 43 = .ok (.isub, 1) := by decide +kernel
theorem d_V_send_44 : decode prog_1_method_13_code 44 = .ok (.aaload, 1) := by decide +kernel
theorem d_V_send_45 : decode prog_1_method_13_code 45 = .ok (.astore 4, 2) := by decide +kernel
theorem d_V_send_47 : decode prog_1_method_13_code 47 = .ok (.aload 4, 2) := by decide +kernel
theorem d_V_send_49 : decode prog_1_method_13_code 49 = .ok (.getfield 76, 3) := by decide +kernel
theorem d_V_send_52 : decode prog_1_method_13_code 52 = .ok (.iload_n 2, 1) := by decide +kernel
theorem d_V_send_53 : decode prog_1_method_13_code 53 = .ok (.if_icmp .ne 6, 3) := by decide +kernel
theorem d_V_send_56 : decode prog_1_method_13_code 56 = .ok (.bipush (-3), 2) := by decide +kernel
theorem d_V_send_58 : decode prog_1_method_13_code 58 = .ok (.ireturn, 1) := by decide +kernel
theorem d_V_send_59 : decode prog_1_method_13_code 59 = .ok (.aload 4, 2) := by decide +kernel
theorem d_V_send_61 : decode prog_1_method_13_code 61 = .ok (.getfield 72, 3) := by decide +kernel
theorem d_V_send_64 : decode prog_1_method_13_code 64 = .ok (.iload_n 2, 1) := by decide +kernel
theorem d_V_send_65 : decode prog_1_method_13_code 65 = .ok (.iaload, 1) := by decide +kernel
theorem d_V_send_66 : decode prog_1_method_13_code 66 = .ok (.istore 5, 2) := by decide +kernel
theorem d_V_send_68 : decode prog_1_method_13_code 68 = .ok (.iload 5, 2) := by decide +kernel
theorem d_V_send_70 : decode prog_1_method_13_code 70 = .ok (.bipush (-2), 2) := by decide +kernel
theorem d_V_send_72 : decode prog_1_method_13_code 72 = .ok (.if_icmp .eq 19, 3) := by decide +kernel
theorem d_V_send_75 : decode prog_1_method_13_code 75 = .ok (.aload_n 0, 1) := by decide +kernel
theorem d_V_send_76 : decode prog_1_method_13_code 76 = .ok (.getfield 10, 3) := by decide +kernel
theorem d_V_send_79 : decode prog_1_method_13_code 79 = .ok (.iload_n 3, 1) := by decide +kernel
theorem d_V_send_80 : decode prog_1_method_13_code 80 = .ok (.iload 5, 2) := by decide +kernel
theorem d_V_send_82 : decode prog_1_method_13_code 82 = .ok (.invokevirtual 95, 3) := by decide +kernel
theorem d_V_send_85 : decode prog_1_method_13_code 85 = .ok (.ifCond .ne 6, 3) := by decide +kernel
theorem d_V_send_88 : decode prog_1_method_13_code 88 = .ok (.bipush (-7), 2) := by decide +kernel
theorem d_V_send_90 : decode prog_1_method_13_code 90 = .ok (.ireturn, 1) := by decide +kernel
theorem d_V_send_91 : decode prog_1_method_13_code 91 = .ok (.aload_n 0, 1) := by decide +kernel
theorem d_V_send_92 : decode prog_1_method_13_code 92 = .ok (.getfield 10, 3) := by decide +kernel
theorem d_V_send_95 : decode prog_1_method_13_code 95 = .ok (.iload_n 3, 1) := by decide +kernel
theorem d_V_send_96 : decode prog_1_method_13_code 96 = .ok (.invokevirtual 68, 3) := by decide +kernel
theorem d_V_send_99 : decode prog_1_method_13_code 99 = .ok (.aload 4, 2) := by decide +kernel
theorem d_V_send_101 : decode prog_1_method_13_code 101 = .ok (.getfield 64, 3) := by decide +kernel
theorem d_V_send_104 : decode prog_1_method_13_code 104 = .ok (.ldc2_w 109, 3) := by decide +kernel
theorem d_V_send_107 : decode prog_1_method_13_code 107 = .ok (.lxor, 1) := by decide +kernel
theorem d_V_send_108 : decode prog_1_method_13_code 108 = .ok (.land, 1) := by decide +kernel
theorem d_V_send_109 : decode prog_1_method_13_code 109 = .ok (.invokestatic 122, 3) := by decide +kernel
theorem d_V_send_112 : decode prog_1_method_13_code 112 = .ok (.istore 6, 2) := by decide +kernel
theorem d_V_send_114 : decode prog_1_method_13_code 114 = .ok (.aload 4, 2) := by decide +kernel
theorem d_V_send_116 : decode prog_1_method_13_code 116 = .ok (.dup, 1) := by decide +kernel
theorem d_V_send_117 : decode prog_1_method_13_code 117 = .ok (.getfield 64, 3) := by decide +kernel
theorem d_V_send_120 : decode prog_1_method_13_code 120 = .ok (.aload_n 0, 1) := by decide +kernel
theorem d_V_send_121 : decode prog_1_method_13_code 121 = .ok (.getfield 10, 3) := by decide +kernel
theorem d_V_send_124 : decode prog_1_method_13_code 124 = .ok (.iload_n 3, 1) := by decide +kernel
theorem d_V_send_125 : decode prog_1_method_13_code 125 = .ok (.invokevirtual 68, 3) := by decide +kernel
theorem d_V_send_128 : decode prog_1_method_13_code 128 = .ok (.lor, 1) := by decide +kernel
theorem d_V_send_129 : decode prog_1_method_13_code 129 = .ok (.putfield 64, 3) := by decide +kernel
theorem d_V_send_132 : decode prog_1_method_13_code 132 = .ok (.aload 4, 2) := by decide +kernel
theorem d_V_send_134 : decode prog_1_method_13_code 134 = .ok (.getfield 72, 3) := by decide +kernel
theorem d_V_send_137 : decode prog_1_method_13_code 137 = .ok (.iload_n 2, 1) := by decide +kernel
theorem d_V_send_138 : decode prog_1_method_13_code 138 = .ok (.iload_n 3, 1) := by decide +kernel
theorem d_V_send_139 : decode prog_1_method_13_code 139 = .ok (.iastore, 1) := by decide +kernel
theorem d_V_send_140 : decode prog_1_method_13_code 140 = .ok (.iload 6, 2) := by decide +kernel
theorem d_V_send_142 : decode prog_1_method_13_code 142 = .ok (.ireturn, 1) := by decide +kernel
theorem d_V_current_0 : decode prog_1_method_14_code 0 = .ok (.iload_n 1, 1) := by decide +kernel
theorem d_V_current_1 : decode prog_1_method_14_code 1 = .ok (.invokestatic 30, 3) := by decide +kernel
theorem d_V_current_4 : decode prog_1_method_14_code 4 = .ok (.ifCond .eq 15, 3) := by decide +kernel
theorem d_V_current_7 : decode prog_1_method_14_code 7 = .ok (.aload_n 0, 1) := by decide +kernel
theorem d_V_current_8 : decode prog_1_method_14_code 8 = .ok (.getfield 18, 3) := by decide +kernel
theorem d_V_current_11 : decode prog_1_method_14_code 11 = .ok (.iload_n 1, 1) := by decide +kernel
theorem d_V_current_12 : decode prog_1_method_14_code 12 = .ok (.aaload, 1) := by decide +kernel
theorem d_V_current_13 : decode prog_1_method_14_code 13 = .ok (.getfield 76, 3) := by decide +kernel
theorem d_V_current_16 : decode prog_1_method_14_code 16 = .ok (.goto 4, 3) := by decide +kernel
theorem d_V_current_19 : decode prog_1_method_14_code 19 = .ok (.iconst (-1), 1) := by decide +kernel
theorem d_V_current_20 : decode prog_1_method_14_code 20 = .ok (.ireturn, 1) := by decide +kernel
theorem d_V_tip_0 : decode prog_1_method_15_code 0 = .ok (.iload_n 1, 1) := by decide +kernel
theorem d_V_tip_1 : decode prog_1_method_15_code 1 = .ok (.invokestatic 30, 3) := by decide +kernel
theorem d_V_tip_4 : decode prog_1_method_15_code 4 = .ok (.ifCond .eq 10, 3) := by decide +kernel
theorem d_V_tip_7 : decode prog_1_method_15_code 7 = .ok (.iload_n 2, 1) := by decide +kernel
theorem d_V_tip_8 : decode prog_1_method_15_code 8 = .ok (.invokestatic 80, 3) := by decide +kernel
theorem d_V_tip_11 : decode prog_1_method_15_code 11 = .ok (.ifCond .ne 5, 3) := by decide +kernel
theorem d_V_tip_14 : decode prog_1_method_15_code 14 = .ok (.iconst (-1), 1) := by decide +kernel
theorem d_V_tip_15 : decode prog_1_method_15_code 15 = .ok (.ireturn, 1) := by decide +kernel
theorem d_V_tip_16 : decode prog_1_method_15_code 16 = .ok (.aload_n 0, 1) := by decide +kernel
theorem d_V_tip_17 : decode prog_1_method_15_code 17 = .ok (.getfield 18, 3) := by decide +kernel
theorem d_V_tip_20 : decode prog_1_method_15_code 20 = .ok (.iload_n 1, 1) := by decide +kernel
theorem d_V_tip_21 : decode prog_1_method_15_code 21 = .ok (.aaload, 1) := by decide +kernel
theorem d_V_tip_22 : decode prog_1_method_15_code 22 = .ok (.getfield 72, 3) := by decide +kernel
theorem d_V_tip_25 : decode prog_1_method_15_code 25 = .ok (.iload_n 2, 1) := by decide +kernel
theorem d_V_tip_26 : decode prog_1_method_15_code 26 = .ok (.iaload, 1) := by decide +kernel
theorem d_V_tip_27 : decode prog_1_method_15_code 27 = .ok (.ireturn, 1) := by decide +kernel
theorem d_V_holds_0 : decode prog_1_method_16_code 0 = .ok (.iload_n 1, 1) := by decide +kernel
theorem d_V_holds_1 : decode prog_1_method_16_code 1 = .ok (.invokestatic 30, 3) := by decide +kernel
theorem d_V_holds_4 : decode prog_1_method_16_code 4 = .ok (.ifCond .eq 21, 3) := by decide +kernel
theorem d_V_holds_7 : decode prog_1_method_16_code 7 = .ok (.aload_n 0, 1) := by decide +kernel
theorem d_V_holds_8 : decode prog_1_method_16_code 8 = .ok (.aload_n 0, 1) := by decide +kernel
theorem d_V_holds_9 : decode prog_1_method_16_code 9 = .ok (.getfield 18, 3) := by decide +kernel
theorem d_V_holds_12 : decode prog_1_method_16_code 12 = .ok (.iload_n 1, 1) := by decide +kernel
theorem d_V_holds_13 : decode prog_1_method_16_code 13 = .ok (.aaload, 1) := by decide +kernel
theorem d_V_holds_14 : decode prog_1_method_16_code 14 = .ok (.iload_n 2, 1) := by decide +kernel
theorem d_V_holds_15 : decode prog_1_method_16_code 15 = .ok (.invokevirtual 102, 3) := by decide +kernel
theorem d_V_holds_18 : decode prog_1_method_16_code 18 = .ok (.ifCond .eq 7, 3) := by decide +kernel
theorem d_V_holds_21 : decode prog_1_method_16_code 21 = .ok (.iconst 1, 1) := by decide +kernel
theorem d_V_holds_22 : decode prog_1_method_16_code 22 = .ok (.goto 4, 3) := by decide +kernel
theorem d_V_holds_25 : decode prog_1_method_16_code 25 = .ok (.iconst 0, 1) := by decide +kernel
theorem d_V_holds_26 : decode prog_1_method_16_code 26 = .ok (.ireturn, 1) := by decide +kernel
theorem d_V_commits_0 : decode prog_1_method_17_code 0 = .ok (.aload_n 0, 1) := by decide +kernel
theorem d_V_commits_1 : decode prog_1_method_17_code 1 = .ok (.getfield 10, 3) := by decide +kernel
theorem d_V_commits_4 : decode prog_1_method_17_code 4 = .ok (.getfield 111, 3) := by decide +kernel
theorem d_V_commits_7 : decode prog_1_method_17_code 7 = .ok (.ireturn, 1) := by decide +kernel
theorem d_V_parent_0 : decode prog_1_method_18_code 0 = .ok (.aload_n 0, 1) := by decide +kernel
theorem d_V_parent_1 : decode prog_1_method_18_code 1 = .ok (.getfield 10, 3) := by decide +kernel
theorem d_V_parent_4 : decode prog_1_method_18_code 4 = .ok (.iload_n 1, 1) := by decide +kernel
theorem d_V_parent_5 : decode prog_1_method_18_code 5 = .ok (.invokevirtual 128, 3) := by decide +kernel
theorem d_V_parent_8 : decode prog_1_method_18_code 8 = .ok (.ifCond .eq 12, 3) := by decide +kernel
theorem d_V_parent_11 : decode prog_1_method_18_code 11 = .ok (.iload_n 2, 1) := by decide +kernel
theorem d_V_parent_12 : decode prog_1_method_18_code 12 = .ok (.ifCond .lt 8, 3) := by decide +kernel
theorem d_V_parent_15 : decode prog_1_method_18_code 15 = .ok (.iload_n 2, 1) := by decide +kernel
theorem d_V_parent_16 : decode prog_1_method_18_code 16 = .ok (.iconst 1, 1) := by decide +kernel
theorem d_V_parent_17 : decode prog_1_method_18_code 17 = .ok (.if_icmp .le 5, 3) := by decide +kernel
theorem d_V_parent_20 : decode prog_1_method_18_code 20 = .ok (.iconst (-1), 1) := by decide +kernel
theorem d_V_parent_21 : decode prog_1_method_18_code 21 = .ok (.ireturn, 1) := by decide +kernel
theorem d_V_parent_22 : decode prog_1_method_18_code 22 = .ok (.iload_n 2, 1) := by decide +kernel
theorem d_V_parent_23 : decode prog_1_method_18_code 23 = .ok (.ifCond .ne 14, 3) := by decide +kernel
theorem d_V_parent_26 : decode prog_1_method_18_code 26 = .ok (.aload_n 0, 1) := by decide +kernel
theorem d_V_parent_27 : decode prog_1_method_18_code 27 = .ok (.getfield 10, 3) := by decide +kernel
theorem d_V_parent_30 : decode prog_1_method_18_code 30 = .ok (.iload_n 1, 1) := by decide +kernel
theorem d_V_parent_31 : decode prog_1_method_18_code 31 = .ok (.invokevirtual 131, 3) := by decide +kernel
theorem d_V_parent_34 : decode prog_1_method_18_code 34 = .ok (.goto 11, 3) := by decide +kernel
theorem d_V_parent_37 : decode prog_1_method_18_code 37 = .ok (.aload_n 0, 1) := by decide +kernel
theorem d_V_parent_38 : decode prog_1_method_18_code 38 = .ok (.getfield 10, 3) := by decide +kernel
theorem d_V_parent_41 : decode prog_1_method_18_code 41 = .ok (.iload_n 1, 1) := by decide +kernel
theorem d_V_parent_42 : decode prog_1_method_18_code 42 = .ok (.invokevirtual 135, 3) := by decide +kernel
theorem d_V_parent_45 : decode prog_1_method_18_code 45 = .ok (.ireturn, 1) := by decide +kernel
theorem d_V_text_0 : decode prog_1_method_19_code 0 = .ok (.aload_n 0, 1) := by decide +kernel
theorem d_V_text_1 : decode prog_1_method_19_code 1 = .ok (.getfield 10, 3) := by decide +kernel
theorem d_V_text_4 : decode prog_1_method_19_code 4 = .ok (.iload_n 1, 1) := by decide +kernel
theorem d_V_text_5 : decode prog_1_method_19_code 5 = .ok (.invokevirtual 128, 3) := by decide +kernel
theorem d_V_text_8 : decode prog_1_method_19_code 8 = .ok (.ifCond .eq 10, 3) := by decide +kernel
theorem d_V_text_11 : decode prog_1_method_19_code 11 = .ok (.iload_n 2, 1) := by decide +kernel
theorem d_V_text_12 : decode prog_1_method_19_code 12 = .ok (.invokestatic 34, 3) := by decide +kernel
theorem d_V_text_15 : decode prog_1_method_19_code 15 = .ok (.ifCond .ne 7, 3) := by decide +kernel
theorem d_V_text_18 : decode prog_1_method_19_code 18 = .ok (.ldc2_w 109, 3) := by decide +kernel
theorem d_V_text_21 : decode prog_1_method_19_code 21 = .ok (.lreturn, 1) := by decide +kernel
theorem d_V_text_22 : decode prog_1_method_19_code 22 = .ok (.aload_n 0, 1) := by decide +kernel
theorem d_V_text_23 : decode prog_1_method_19_code 23 = .ok (.getfield 10, 3) := by decide +kernel
theorem d_V_text_26 : decode prog_1_method_19_code 26 = .ok (.iload_n 1, 1) := by decide +kernel
theorem d_V_text_27 : decode prog_1_method_19_code 27 = .ok (.iload_n 2, 1) := by decide +kernel
theorem d_V_text_28 : decode prog_1_method_19_code 28 = .ok (.invokevirtual 138, 3) := by decide +kernel
theorem d_V_text_31 : decode prog_1_method_19_code 31 = .ok (.lreturn, 1) := by decide +kernel
theorem d_V_working_0 : decode prog_1_method_20_code 0 = .ok (.iload_n 1, 1) := by decide +kernel
theorem d_V_working_1 : decode prog_1_method_20_code 1 = .ok (.invokestatic 30, 3) := by decide +kernel
theorem d_V_working_4 : decode prog_1_method_20_code 4 = .ok (.ifCond .eq 10, 3) := by decide +kernel
theorem d_V_working_7 : decode prog_1_method_20_code 7 = .ok (.iload_n 2, 1) := by decide +kernel
theorem d_V_working_8 : decode prog_1_method_20_code 8 = .ok (.invokestatic 34, 3) := by decide +kernel
theorem d_V_working_11 : decode prog_1_method_20_code 11 = .ok (.ifCond .ne 7, 3) := by decide +kernel
theorem d_V_working_14 : decode prog_1_method_20_code 14 = .ok (.ldc2_w 109, 3) := by decide +kernel
theorem d_V_working_17 : decode prog_1_method_20_code 17 = .ok (.lreturn, 1) := by decide +kernel
theorem d_V_working_18 : decode prog_1_method_20_code 18 = .ok (.aload_n 0, 1) := by decide +kernel
theorem d_V_working_19 : decode prog_1_method_20_code 19 = .ok (.getfield 18, 3) := by decide +kernel
theorem d_V_working_22 : decode prog_1_method_20_code 22 = .ok (.iload_n 1, 1) := by decide +kernel
theorem d_V_working_23 : decode prog_1_method_20_code 23 = .ok (.aaload, 1) := by decide +kernel
theorem d_V_working_24 : decode prog_1_method_20_code 24 = .ok (.getfield 37, 3) := by decide +kernel
theorem d_V_working_27 : decode prog_1_method_20_code 27 = .ok (.iload_n 2, 1) := by decide +kernel
theorem d_V_working_28 : decode prog_1_method_20_code 28 = .ok (.laload, 1) := by decide +kernel
theorem d_V_working_29 : decode prog_1_method_20_code 29 = .ok (.lreturn, 1) := by decide +kernel
theorem d_V_staged_0 : decode prog_1_method_21_code 0 = .ok (.iload_n 1, 1) := by decide +kernel
theorem d_V_staged_1 : decode prog_1_method_21_code 1 = .ok (.invokestatic 30, 3) := by decide +kernel
theorem d_V_staged_4 : decode prog_1_method_21_code 4 = .ok (.ifCond .eq 10, 3) := by decide +kernel
theorem d_V_staged_7 : decode prog_1_method_21_code 7 = .ok (.iload_n 2, 1) := by decide +kernel
theorem d_V_staged_8 : decode prog_1_method_21_code 8 = .ok (.invokestatic 34, 3) := by decide +kernel
theorem d_V_staged_11 : decode prog_1_method_21_code 11 = .ok (.ifCond .ne 7, 3) := by decide +kernel
theorem d_V_staged_14 : decode prog_1_method_21_code 14 = .ok (.ldc2_w 109, 3) := by decide +kernel
theorem d_V_staged_17 : decode prog_1_method_21_code 17 = .ok (.lreturn, 1) := by decide +kernel
theorem d_V_staged_18 : decode prog_1_method_21_code 18 = .ok (.aload_n 0, 1) := by decide +kernel
theorem d_V_staged_19 : decode prog_1_method_21_code 19 = .ok (.getfield 18, 3) := by decide +kernel
theorem d_V_staged_22 : decode prog_1_method_21_code 22 = .ok (.iload_n 1, 1) := by decide +kernel
theorem d_V_staged_23 : decode prog_1_method_21_code 23 = .ok (.aaload, 1) := by decide +kernel
theorem d_V_staged_24 : decode prog_1_method_21_code 24 = .ok (.getfield 49, 3) := by decide +kernel
theorem d_V_staged_27 : decode prog_1_method_21_code 27 = .ok (.iload_n 2, 1) := by decide +kernel
theorem d_V_staged_28 : decode prog_1_method_21_code 28 = .ok (.laload, 1) := by decide +kernel
theorem d_V_staged_29 : decode prog_1_method_21_code 29 = .ok (.lreturn, 1) := by decide +kernel
theorem d_V_base_0 : decode prog_1_method_22_code 0 = .ok (.aload_n 0, 1) := by decide +kernel
theorem d_V_base_1 : decode prog_1_method_22_code 1 = .ok (.getfield 10, 3) := by decide +kernel
theorem d_V_base_4 : decode prog_1_method_22_code 4 = .ok (.iload_n 1, 1) := by decide +kernel
theorem d_V_base_5 : decode prog_1_method_22_code 5 = .ok (.invokevirtual 128, 3) := by decide +kernel
theorem d_V_base_8 : decode prog_1_method_22_code 8 = .ok (.ifCond .eq 14, 3) := by decide +kernel
theorem d_V_base_11 : decode prog_1_method_22_code 11 = .ok (.aload_n 0, 1) := by decide +kernel
theorem d_V_base_12 : decode prog_1_method_22_code 12 = .ok (.getfield 10, 3) := by decide +kernel
theorem d_V_base_15 : decode prog_1_method_22_code 15 = .ok (.iload_n 2, 1) := by decide +kernel
theorem d_V_base_16 : decode prog_1_method_22_code 16 = .ok (.invokevirtual 128, 3) := by decide +kernel
theorem d_V_base_19 : decode prog_1_method_22_code 19 = .ok (.ifCond .ne 5, 3) := by decide +kernel
theorem d_V_base_22 : decode prog_1_method_22_code 22 = .ok (.iconst (-1), 1) := by decide +kernel
theorem d_V_base_23 : decode prog_1_method_22_code 23 = .ok (.ireturn, 1) := by decide +kernel
theorem d_V_base_24 : decode prog_1_method_22_code 24 = .ok (.aload_n 0, 1) := by decide +kernel
theorem d_V_base_25 : decode prog_1_method_22_code 25 = .ok (.getfield 10, 3) := by decide +kernel
theorem d_V_base_28 : decode prog_1_method_22_code 28 = .ok (.iload_n 1, 1) := by decide +kernel
theorem d_V_base_29 : decode prog_1_method_22_code 29 = .ok (.iload_n 2, 1) := by decide +kernel
theorem d_V_base_30 : decode prog_1_method_22_code 30 = .ok (.invokevirtual 142, 3) := by decide +kernel
theorem d_V_base_33 : decode prog_1_method_22_code 33 = .ok (.ireturn, 1) := by decide +kernel
theorem d_H_init_0 : decode prog_2_method_1_code 0 = .ok (.aload_n 0, 1) := by decide +kernel
theorem d_H_init_1 : decode prog_2_method_1_code 1 = .ok (.invokespecial 3, 3) := by decide +kernel
theorem d_H_init_4 : decode prog_2_method_1_code 4 = .ok (.aload_n 0, 1) := by decide +kernel
theorem d_H_init_5 : decode prog_2_method_1_code 5 = .ok (.sipush 160, 3) := by decide +kernel
theorem d_H_init_8 : decode prog_2_method_1_code 8 = .ok (.newarray .long, 2) := by decide +kernel
theorem d_H_init_10 : decode prog_2_method_1_code 10 = .ok (.putfield 9, 3) := by decide +kernel
theorem d_H_init_13 : decode prog_2_method_1_code 13 = .ok (.aload_n 0, 1) := by decide +kernel
theorem d_H_init_14 : decode prog_2_method_1_code 14 = .ok (.bipush 40, 2) := by decide +kernel
theorem d_H_init_16 : decode prog_2_method_1_code 16 = .ok (.newarray .int, 2) := by decide +kernel
theorem d_H_init_18 : decode prog_2_method_1_code 18 = .ok (.putfield 15, 3) := by decide +kernel
theorem d_H_init_21 : decode prog_2_method_1_code 21 = .ok (.aload_n 0, 1) := by decide +kernel
theorem d_H_init_22 : decode prog_2_method_1_code 22 = .ok (.bipush 40, 2) := by decide +kernel
theorem d_H_init_24 : decode prog_2_method_1_code 24 = .ok (.newarray .int, 2) := by decide +kernel
theorem d_H_init_26 : decode prog_2_method_1_code 26 = .ok (.putfield 19, 3) := by decide +kernel
theorem d_H_init_29 : decode prog_2_method_1_code 29 = .ok (.aload_n 0, 1) := by decide +kernel
theorem d_H_init_30 : decode prog_2_method_1_code 30 = .ok (.bipush 40, 2) := by decide +kernel
theorem d_H_init_32 : decode prog_2_method_1_code 32 = .ok (.newarray .long, 2) := by decide +kernel
theorem d_H_init_34 : decode prog_2_method_1_code 34 = .ok (.putfield 22, 3) := by decide +kernel
theorem d_H_init_37 : decode prog_2_method_1_code 37 = .ok (.aload_n 0, 1) := by decide +kernel
theorem d_H_init_38 : decode prog_2_method_1_code 38 = .ok (.iconst 0, 1) := by decide +kernel
theorem d_H_init_39 : decode prog_2_method_1_code 39 = .ok (.putfield 25, 3) := by decide +kernel
theorem d_H_init_42 : decode prog_2_method_1_code 42 = .ok (.return_, 1) := by decide +kernel
theorem d_H_hasSnapshot_0 : decode prog_2_method_7_code 0 = .ok (.iconst 0, 1) := by decide +kernel
theorem d_H_hasSnapshot_1 : decode prog_2_method_7_code 1 = .ok (.istore_n 3, 1) := by decide +kernel
theorem d_H_hasSnapshot_2 : decode prog_2_method_7_code 2 = .ok (.iload_n 3, 1) := by decide +kernel
theorem d_H_hasSnapshot_3 : decode prog_2_method_7_code 3 = .ok (.iconst 4, 1) := by decide +kernel
theorem d_H_hasSnapshot_4 : decode prog_2_method_7_code 4 = .ok (.if_icmp .ge 24, 3) := by decide +kernel
theorem d_H_hasSnapshot_7 : decode prog_2_method_7_code 7 = .ok (.aload_n 0, 1) := by decide +kernel
theorem d_H_hasSnapshot_8 : decode prog_2_method_7_code 8 = .ok (.iload_n 1, 1) := by decide +kernel
theorem d_H_hasSnapshot_9 : decode prog_2_method_7_code 9 = .ok (.iload_n 3, 1) := by decide +kernel
theorem d_H_hasSnapshot_10 : decode prog_2_method_7_code 10 = .ok (.invokevirtual 35, 3) := by decide +kernel
theorem d_H_hasSnapshot_13 : decode prog_2_method_7_code 13 = .ok (.aload_n 2, 1) := by decide +kernel
theorem d_H_hasSnapshot_14 : decode prog_2_method_7_code 14 = .ok (.iload_n 3, 1) := by decide +kernel
theorem d_H_hasSnapshot_15 : decode prog_2_method_7_code 15 = .ok (.laload, 1) := by decide +kernel
theorem d_H_hasSnapshot_16 : decode prog_2_method_7_code 16 = .ok (.lcmp, 1) := by decide +kernel
theorem d_H_hasSnapshot_17 : decode prog_2_method_7_code 17 = .ok (.ifCond .eq 5, 3) := by decide +kernel
theorem d_H_hasSnapshot_20 : decode prog_2_method_7_code 20 = .ok (.iconst 0, 1) := by decide +kernel
theorem d_H_hasSnapshot_21 : decode prog_2_method_7_code 21 = .ok (.ireturn, 1) := by decide +kernel
theorem d_H_hasSnapshot_22 : decode prog_2_method_7_code 22 = .ok (.iinc 3 1, 3) := by decide +kernel
theorem d_H_hasSnapshot_25 : decode prog_2_method_7_code 25 = .ok (.goto (-23), 3) := by decide +kernel
theorem d_H_hasSnapshot_28 : decode prog_2_method_7_code 28 = .ok (.iconst 1, 1) := by decide +kernel
theorem d_H_hasSnapshot_29 : decode prog_2_method_7_code 29 = .ok (.ireturn, 1) := by decide +kernel
theorem d_H_textOf_0 : decode prog_2_method_6_code 0 = .ok (.aload_n 0, 1) := by decide +kernel
theorem d_H_textOf_1 : decode prog_2_method_6_code 1 = .ok (.iload_n 1, 1) := by decide +kernel
theorem d_H_textOf_2 : decode prog_2_method_6_code 2 = .ok (.invokevirtual 29, 3) := by decide +kernel
theorem d_H_textOf_5 : decode prog_2_method_6_code 5 = .ok (.ifCond .eq 16, 3) := by decide +kernel
theorem d_H_textOf_8 : decode prog_2_method_6_code 8 = .ok (.aload_n 0, 1) := by decide +kernel
theorem d_H_textOf_9 : decode prog_2_method_6_code 9 = .ok (.getfield 9, 3) := by decide +kernel
theorem d_H_textOf_12 : decode prog_2_method_6_code 12 = .ok (.iload_n 1, 1) := by decide +kernel
theorem d_H_textOf_13 : decode prog_2_method_6_code 13 = .ok (.iconst 4, 1) := by decide +kernel
theorem d_H_textOf_14 : decode prog_2_method_6_code 14 = .ok (.imul, 1) := by decide +kernel
theorem d_H_textOf_15 : decode prog_2_method_6_code 15 = .ok (.iload_n 2, 1) := by decide +kernel
theorem d_H_textOf_16 : decode prog_2_method_6_code 16 = .ok (.iadd, 1) := by decide +kernel
theorem d_H_textOf_17 : decode prog_2_method_6_code 17 = .ok (.laload, 1) := by decide +kernel
theorem d_H_textOf_18 : decode prog_2_method_6_code 18 = .ok (.goto 6, 3) := by decide +kernel
theorem d_H_textOf_21 : decode prog_2_method_6_code 21 = .ok (.ldc2_w 33, 3) := by decide +kernel
theorem d_H_textOf_24 : decode prog_2_method_6_code 24 = .ok (.lreturn, 1) := by decide +kernel
theorem d_H_isMade_0 : decode prog_2_method_3_code 0 = .ok (.iload_n 1, 1) := by decide +kernel
theorem d_H_isMade_1 : decode prog_2_method_3_code 1 = .ok (.ifCond .lt 15, 3) := by decide +kernel
theorem d_H_isMade_4 : decode prog_2_method_3_code 4 = .ok (.iload_n 1, 1) := by decide +kernel
theorem d_H_isMade_5 : decode prog_2_method_3_code 5 = .ok (.aload_n 0, 1) := by decide +kernel
theorem d_H_isMade_6 : decode prog_2_method_3_code 6 = .ok (.getfield 25, 3) := by decide +kernel
theorem d_H_isMade_9 : decode prog_2_method_3_code 9 = .ok (.if_icmp .ge 7, 3) := by decide +kernel
theorem d_H_isMade_12 : decode prog_2_method_3_code 12 = .ok (.iconst 1, 1) := by decide +kernel
theorem d_H_isMade_13 : decode prog_2_method_3_code 13 = .ok (.goto 4, 3) := by decide +kernel
theorem d_H_isMade_16 : decode prog_2_method_3_code 16 = .ok (.iconst 0, 1) := by decide +kernel
theorem d_H_isMade_17 : decode prog_2_method_3_code 17 = .ok (.ireturn, 1) := by decide +kernel
theorem d_H_add_0 : decode prog_2_method_13_code 0 = .ok (.aload_n 0, 1) := by decide +kernel
theorem d_H_add_1 : decode prog_2_method_13_code 1 = .ok (.getfield 25, 3) := by decide +kernel
theorem d_H_add_4 : decode prog_2_method_13_code 4 = .ok (.bipush 40, 2) := by decide +kernel
theorem d_H_add_6 : decode prog_2_method_13_code 6 = .ok (.if_icmp .lt 6, 3) := by decide +kernel
theorem d_H_add_9 : decode prog_2_method_13_code 9 = .ok (.bipush (-6), 2) := by decide +kernel
theorem d_H_add_11 : decode prog_2_method_13_code 11 = .ok (.ireturn, 1) := by decide +kernel
theorem d_H_add_12 : decode prog_2_method_13_code 12 = .ok (.aload_n 0, 1) := by decide +kernel
theorem d_H_add_13 : decode prog_2_method_13_code 13 = .ok (.getfield 25, 3) := by decide +kernel
theorem d_H_add_16 : decode prog_2_method_13_code 16 = .ok (.istore 4, 2) := by decide +kernel
theorem d_H_add_18 : decode prog_2_method_13_code 18 = .ok (.iconst 0, 1) := by decide +kernel
theorem d_H_add_19 : decode prog_2_method_13_code 19 = .ok (.istore 5, 2) := by decide +kernel
theorem d_H_add_21 : decode prog_2_method_13_code 21 = .ok (.iload 5, 2) := by decide +kernel
theorem d_H_add_23 : decode prog_2_method_13_code 23 = .ok (.iconst 4, 1) := by decide +kernel
theorem d_H_add_24 : decode prog_2_method_13_code 24 = .ok (.if_icmp .ge 25, 3) := by decide +kernel
theorem d_H_add_27 : decode prog_2_method_13_code 27 = .ok (.aload_n 0, 1) := by decide +kernel
theorem d_H_add_28 : decode prog_2_method_13_code 28 = .ok (.getfield 9, 3) := by decide +kernel
theorem d_H_add_31 : decode prog_2_method_13_code 31 = .ok (.iload 4, 2) := by decide +kernel
theorem d_H_add_33 : decode prog_2_method_13_code 33 = .ok (.iconst 4, 1) := by decide +kernel
theorem d_H_add_34 : decode prog_2_method_13_code 34 = .ok (.imul, 1) := by decide +kernel
theorem d_H_add_35 : decode prog_2_method_13_code 35 = .ok (.iload 5, 2) := by decide +kernel
theorem d_H_add_37 : decode prog_2_method_13_code 37 = .ok (.iadd, 1) := by decide +kernel
theorem d_H_add_38 : decode prog_2_method_13_code 38 = .ok (.aload_n 1, 1) := by decide +kernel
theorem d_H_add_39 : decode prog_2_method_13_code 39 = .ok (.iload 5, 2) := by decide +kernel
theorem d_H_add_41 : decode prog_2_method_13_code 41 = .ok (.laload, 1) := by decide +kernel
theorem d_H_add_42 : decode prog_2_method_13_code 42 = .ok (.lastore, 1) := by decide +kernel
theorem d_H_add_43 : decode prog_2_method_13_code 43 = .ok (.iinc 5 1, 3) := by decide +kernel
theorem d_H_add_46 : decode prog_2_method_13_code 46 = .ok (.goto (-25), 3) := by decide +kernel
theorem d_H_add_49 : decode prog_2_method_13_code 49 = .ok (.aload_n 0, 1) := by decide +kernel
theorem d_H_add_50 : decode prog_2_method_13_code 50 = .ok (.getfield 15, 3) := by decide +kernel
theorem d_H_add_53 : decode prog_2_method_13_code 53 = .ok (.iload 4, 2) := by decide +kernel
theorem d_H_add_55 : decode prog_2_method_13_code 55 = .ok (.iload_n 2, 1) := by decide +kernel
theorem d_H_add_56 : decode prog_2_method_13_code 56 = .ok (.iastore, 1) := by decide +kernel
theorem d_H_add_57 : decode prog_2_method_13_code 57 = .ok (.aload_n 0, 1) := by decide +kernel
theorem d_H_add_58 : decode prog_2_method_13_code 58 = .ok (.getfield 19, 3) := by decide +kernel
theorem d_H_add_61 : decode prog_2_method_13_code 61 = .ok (.iload 4, 2) := by decide +kernel
theorem d_H_add_63 : decode prog_2_method_13_code 63 = .ok (.iload_n 3, 1) := by decide +kernel
theorem d_H_add_64 : decode prog_2_method_13_code 64 = .ok (.iastore, 1) := by decide +kernel
theorem d_H_add_65 : decode prog_2_method_13_code 65 = .ok (.aload_n 0, 1) := by decide +kernel
theorem d_H_add_66 : decode prog_2_method_13_code 66 = .ok (.getfield 22, 3) := by decide +kernel
theorem d_H_add_69 : decode prog_2_method_13_code 69 = .ok (.iload 4, 2) := by decide +kernel
theorem d_H_add_71 : decode prog_2_method_13_code 71 = .ok (.lconst 1, 1) := by decide +kernel
theorem d_H_add_72 : decode prog_2_method_13_code 72 = .ok (.iload 4, 2) := by decide +kernel
theorem d_H_add_74 : decode prog_2_method_13_code 74 = .ok (.lshl, 1) := by decide +kernel
theorem d_H_add_75 : decode prog_2_method_13_code 75 = .ok (.aload_n 0, 1) := by decide +kernel
theorem d_H_add_76 : decode prog_2_method_13_code 76 = .ok (.iload_n 2, 1) := by decide +kernel
theorem d_H_add_77 : decode prog_2_method_13_code 77 = .ok (.invokevirtual 39, 3) := by decide +kernel
theorem d_H_add_80 : decode prog_2_method_13_code 80 = .ok (.lor, 1) := by decide +kernel
theorem d_H_add_81 : decode prog_2_method_13_code 81 = .ok (.aload_n 0, 1) := by decide +kernel
theorem d_H_add_82 : decode prog_2_method_13_code 82 = .ok (.iload_n 3, 1) := by decide +kernel
theorem d_H_add_83 : decode prog_2_method_13_code 83 = .ok (.invokevirtual 39, 3) := by decide +kernel
theorem d_H_add_86 : decode prog_2_method_13_code 86 = .ok (.lor, 1) := by decide +kernel
theorem d_H_add_87 : decode prog_2_method_13_code 87 = .ok (.lastore, 1) := by decide +kernel
theorem d_H_add_88 : decode prog_2_method_13_code 88 = .ok (.aload_n 0, 1) := by decide +kernel
theorem d_H_add_89 : decode prog_2_method_13_code 89 = .ok (.iload 4, 2) := by decide +kernel
theorem d_H_add_91 : decode prog_2_method_13_code 91 = .ok (.iconst 1, 1) := by decide +kernel
theorem d_H_add_92 : decode prog_2_method_13_code 92 = .ok (.iadd, 1) := by decide +kernel
theorem d_H_add_93 : decode prog_2_method_13_code 93 = .ok (.putfield 25, 3) := by decide +kernel
theorem d_H_add_96 : decode prog_2_method_13_code 96 = .ok (.iload 4, 2) := by decide +kernel
theorem d_H_add_98 : decode prog_2_method_13_code 98 = .ok (.ireturn, 1) := by decide +kernel
theorem d_H_reachOf_0 : decode prog_2_method_9_code 0 = .ok (.aload_n 0, 1) := by decide +kernel
theorem d_H_reachOf_1 : decode prog_2_method_9_code 1 = .ok (.iload_n 1, 1) := by decide +kernel
theorem d_H_reachOf_2 : decode prog_2_method_9_code 2 = .ok (.invokevirtual 29, 3) := by decide +kernel
theorem d_H_reachOf_5 : decode prog_2_method_9_code 5 = .ok (.ifCond .eq 12, 3) := by decide +kernel
theorem d_H_reachOf_8 : decode prog_2_method_9_code 8 = .ok (.aload_n 0, 1) := by decide +kernel
theorem d_H_reachOf_9 : decode prog_2_method_9_code 9 = .ok (.getfield 22, 3) := by decide +kernel
theorem d_H_reachOf_12 : decode prog_2_method_9_code 12 = .ok (.iload_n 1, 1) := by decide +kernel
theorem d_H_reachOf_13 : decode prog_2_method_9_code 13 = .ok (.laload, 1) := by decide +kernel
theorem d_H_reachOf_14 : decode prog_2_method_9_code 14 = .ok (.goto 4, 3) := by decide +kernel
theorem d_H_reachOf_17 : decode prog_2_method_9_code 17 = .ok (.lconst 0, 1) := by decide +kernel
theorem d_H_reachOf_18 : decode prog_2_method_9_code 18 = .ok (.lreturn, 1) := by decide +kernel
theorem d_H_copySnapshot_0 : decode prog_2_method_8_code 0 = .ok (.iconst 0, 1) := by decide +kernel
theorem d_H_copySnapshot_1 : decode prog_2_method_8_code 1 = .ok (.istore_n 3, 1) := by decide +kernel
theorem d_H_copySnapshot_2 : decode prog_2_method_8_code 2 = .ok (.iload_n 3, 1) := by decide +kernel
theorem d_H_copySnapshot_3 : decode prog_2_method_8_code 3 = .ok (.iconst 4, 1) := by decide +kernel
theorem d_H_copySnapshot_4 : decode prog_2_method_8_code 4 = .ok (.if_icmp .ge 18, 3) := by decide +kernel
theorem d_H_copySnapshot_7 : decode prog_2_method_8_code 7 = .ok (.aload_n 2, 1) := by decide +kernel
theorem d_H_copySnapshot_8 : decode prog_2_method_8_code 8 = .ok (.iload_n 3, 1) := by decide +kernel
theorem d_H_copySnapshot_9 : decode prog_2_method_8_code 9 = .ok (.aload_n 0, 1) := by decide +kernel
theorem d_H_copySnapshot_10 : decode prog_2_method_8_code 10 = .ok (.iload_n 1, 1) := by decide +kernel
theorem d_H_copySnapshot_11 : decode prog_2_method_8_code 11 = .ok (.iload_n 3, 1) := by decide +kernel
theorem d_H_copySnapshot_12 : decode prog_2_method_8_code 12 = .ok (.invokevirtual 35, 3) := by decide +kernel
theorem d_H_copySnapshot_15 : decode prog_2_method_8_code 15 = .ok (.lastore, 1) := by decide +kernel
theorem d_H_copySnapshot_16 : decode prog_2_method_8_code 16 = .ok (.iinc 3 1, 3) := by decide +kernel
theorem d_H_copySnapshot_19 : decode prog_2_method_8_code 19 = .ok (.goto (-17), 3) := by decide +kernel
theorem d_H_copySnapshot_22 : decode prog_2_method_8_code 22 = .ok (.return_, 1) := by decide +kernel
theorem d_H_reaches_0 : decode prog_2_method_10_code 0 = .ok (.aload_n 0, 1) := by decide +kernel
theorem d_H_reaches_1 : decode prog_2_method_10_code 1 = .ok (.iload_n 1, 1) := by decide +kernel
theorem d_H_reaches_2 : decode prog_2_method_10_code 2 = .ok (.invokevirtual 39, 3) := by decide +kernel
theorem d_H_reaches_5 : decode prog_2_method_10_code 5 = .ok (.iload_n 2, 1) := by decide +kernel
theorem d_H_reaches_6 : decode prog_2_method_10_code 6 = .ok (.invokestatic 43, 3) := by decide +kernel
theorem d_H_reaches_9 : decode prog_2_method_10_code 9 = .ok (.ireturn, 1) := by decide +kernel
theorem d_H_isIn_0 : decode prog_2_method_2_code 0 = .ok (.lload_n 0, 1) := by decide +kernel
theorem d_H_isIn_1 : decode prog_2_method_2_code 1 = .ok (.iload_n 2, 1) := by decide +kernel
theorem d_H_isIn_2 : decode prog_2_method_2_code 2 = .ok (.lushr, 1) := by decide +kernel
theorem d_H_isIn_3 : decode prog_2_method_2_code 3 = .ok (.lconst 1, 1) := by decide +kernel
theorem d_H_isIn_4 : decode prog_2_method_2_code 4 = .ok (.land, 1) := by decide +kernel
theorem d_H_isIn_5 : decode prog_2_method_2_code 5 = .ok (.lconst 0, 1) := by decide +kernel
theorem d_H_isIn_6 : decode prog_2_method_2_code 6 = .ok (.lcmp, 1) := by decide +kernel
theorem d_H_isIn_7 : decode prog_2_method_2_code 7 = .ok (.ifCond .eq 7, 3) := by decide +kernel
theorem d_H_isIn_10 : decode prog_2_method_2_code 10 = .ok (.iconst 1, 1) := by decide +kernel
theorem d_H_isIn_11 : decode prog_2_method_2_code 11 = .ok (.goto 4, 3) := by decide +kernel
theorem d_H_isIn_14 : decode prog_2_method_2_code 14 = .ok (.iconst 0, 1) := by decide +kernel
theorem d_H_isIn_15 : decode prog_2_method_2_code 15 = .ok (.ireturn, 1) := by decide +kernel
theorem d_H_baseOf_0 : decode prog_2_method_11_code 0 = .ok (.aload_n 0, 1) := by decide +kernel
theorem d_H_baseOf_1 : decode prog_2_method_11_code 1 = .ok (.iload_n 1, 1) := by decide +kernel
theorem d_H_baseOf_2 : decode prog_2_method_11_code 2 = .ok (.invokevirtual 39, 3) := by decide +kernel
theorem d_H_baseOf_5 : decode prog_2_method_11_code 5 = .ok (.aload_n 0, 1) := by decide +kernel
theorem d_H_baseOf_6 : decode prog_2_method_11_code 6 = .ok (.iload_n 2, 1) := by decide +kernel
theorem d_H_baseOf_7 : decode prog_2_method_11_code 7 = .ok (.invokevirtual 39, 3) := by decide +kernel
theorem d_H_baseOf_10 : decode prog_2_method_11_code 10 = .ok (.land, 1) := by decide +kernel
theorem d_H_baseOf_11 : decode prog_2_method_11_code 11 = .ok (.lstore_n 3, 1) := by decide +kernel
theorem d_H_baseOf_12 : decode prog_2_method_11_code 12 = .ok (.iconst 0, 1) := by decide +kernel
theorem d_H_baseOf_13 : decode prog_2_method_11_code 13 = .ok (.istore 5, 2) := by decide +kernel
theorem d_H_baseOf_15 : decode prog_2_method_11_code 15 = .ok (.iload 5, 2) := by decide +kernel
theorem d_H_baseOf_17 : decode prog_2_method_11_code 17 = .ok (.aload_n 0, 1) := by decide +kernel
theorem d_H_baseOf_18 : decode prog_2_method_11_code 18 = .ok (.getfield 25, 3) := by decide +kernel
theorem d_H_baseOf_21 : decode prog_2_method_11_code 21 = .ok (.if_icmp .ge 31, 3) := by decide +kernel
theorem d_H_baseOf_24 : decode prog_2_method_11_code 24 = .ok (.lload_n 3, 1) := by decide +kernel
theorem d_H_baseOf_25 : decode prog_2_method_11_code 25 = .ok (.iload 5, 2) := by decide +kernel
theorem d_H_baseOf_27 : decode prog_2_method_11_code 27 = .ok (.invokestatic 43, 3) := by decide +kernel
theorem d_H_baseOf_30 : decode prog_2_method_11_code 30 = .ok (.ifCond .eq 16, 3) := by decide +kernel
theorem d_H_baseOf_33 : decode prog_2_method_11_code 33 = .ok (.aload_n 0, 1) := by decide +kernel
theorem d_H_baseOf_34 : decode prog_2_method_11_code 34 = .ok (.lload_n 3, 1) := by decide +kernel
theorem d_H_baseOf_35 : decode prog_2_method_11_code 35 = .ok (.iload 5, 2) := by decide +kernel
theorem d_H_baseOf_37 : decode prog_2_method_11_code 37 = .ok (.invokevirtual 47, 3) := by decide +kernel
theorem d_H_baseOf_40 : decode prog_2_method_11_code 40 = .ok (.ifCond .ne 6, 3) := by decide +kernel
theorem d_H_baseOf_43 : decode prog_2_method_11_code 43 = .ok (.iload 5, 2) := by decide +kernel
theorem d_H_baseOf_45 : decode prog_2_method_11_code 45 = .ok (.ireturn, 1) := by decide +kernel
theorem d_H_baseOf_46 : decode prog_2_method_11_code 46 = .ok (.iinc 5 1, 3) := by decide +kernel
theorem d_H_baseOf_49 : decode prog_2_method_11_code 49 = .ok (.goto (-34), 3) := by decide +kernel
theorem d_H_baseOf_52 : decode prog_2_method_11_code 52 = .ok (.bipush (-2), 2) := by decide +kernel
theorem d_H_baseOf_54 : decode prog_2_method_11_code 54 = .ok (.ireturn, 1) := by decide +kernel
theorem d_H_isReachedByLater_0 : decode prog_2_method_12_code 0 = .ok (.iload_n 3, 1) := by decide +kernel
theorem d_H_isReachedByLater_1 : decode prog_2_method_12_code 1 = .ok (.iconst 1, 1) := by decide +kernel
theorem d_H_isReachedByLater_2 : decode prog_2_method_12_code 2 = .ok (.iadd, 1) := by decide +kernel
theorem d_H_isReachedByLater_3 : decode prog_2_method_12_code 3 = .ok (.istore 4, 2) := by decide +kernel
theorem d_H_isReachedByLater_5 : decode prog_2_method_12_code 5 = .ok (.iload 4, 2) := by decide +kernel
theorem d_H_isReachedByLater_7 : decode prog_2_method_12_code 7 = .ok (.aload_n 0, 1) := by decide +kernel
theorem d_H_isReachedByLater_8 : decode prog_2_method_12_code 8 = .ok (.getfield 25, 3) := by decide +kernel
theorem d_H_isReachedByLater_11 : decode prog_2_method_12_code 11 = .ok (.if_icmp .ge 30, 3) := by decide +kernel
theorem d_H_isReachedByLater_14 : decode prog_2_method_12_code 14 = .ok (.lload_n 1, 1) := by decide +kernel
theorem d_H_isReachedByLater_15 : decode prog_2_method_12_code 15 = .ok (.iload 4, 2) := by decide +kernel
theorem d_H_isReachedByLater_17 : decode prog_2_method_12_code 17 = .ok (.invokestatic 43, 3) := by decide +kernel
theorem d_H_isReachedByLater_20 : decode prog_2_method_12_code 20 = .ok (.ifCond .eq 15, 3) := by decide +kernel
theorem d_H_isReachedByLater_23 : decode prog_2_method_12_code 23 = .ok (.aload_n 0, 1) := by decide +kernel
theorem d_H_isReachedByLater_24 : decode prog_2_method_12_code 24 = .ok (.iload 4, 2) := by decide +kernel
theorem d_H_isReachedByLater_26 : decode prog_2_method_12_code 26 = .ok (.iload_n 3, 1) := by decide +kernel
theorem d_H_isReachedByLater_27 : decode prog_2_method_12_code 27 = .ok (.invokevirtual 50, 3) := by decide +kernel
theorem d_H_isReachedByLater_30 : decode prog_2_method_12_code 30 = .ok (.ifCond .eq 5, 3) := by decide +kernel
theorem d_H_isReachedByLater_33 : decode prog_2_method_12_code 33 = .ok (.iconst 1, 1) := by decide +kernel
theorem d_H_isReachedByLater_34 : decode prog_2_method_12_code 34 = .ok (.ireturn, 1) := by decide +kernel
theorem d_H_isReachedByLater_35 : decode prog_2_method_12_code 35 = .ok (.iinc 4 1, 3) := by decide +kernel
theorem d_H_isReachedByLater_38 : decode prog_2_method_12_code 38 = .ok (.goto (-33), 3) := by decide +kernel
theorem d_H_isReachedByLater_41 : decode prog_2_method_12_code 41 = .ok (.iconst 0, 1) := by decide +kernel
theorem d_H_isReachedByLater_42 : decode prog_2_method_12_code 42 = .ok (.ireturn, 1) := by decide +kernel
theorem d_H_secondParentOf_0 : decode prog_2_method_5_code 0 = .ok (.aload_n 0, 1) := by decide +kernel
theorem d_H_secondParentOf_1 : decode prog_2_method_5_code 1 = .ok (.iload_n 1, 1) := by decide +kernel
theorem d_H_secondParentOf_2 : decode prog_2_method_5_code 2 = .ok (.invokevirtual 29, 3) := by decide +kernel
theorem d_H_secondParentOf_5 : decode prog_2_method_5_code 5 = .ok (.ifCond .eq 12, 3) := by decide +kernel
theorem d_H_secondParentOf_8 : decode prog_2_method_5_code 8 = .ok (.aload_n 0, 1) := by decide +kernel
theorem d_H_secondParentOf_9 : decode prog_2_method_5_code 9 = .ok (.getfield 19, 3) := by decide +kernel
theorem d_H_secondParentOf_12 : decode prog_2_method_5_code 12 = .ok (.iload_n 1, 1) := by decide +kernel
theorem d_H_secondParentOf_13 : decode prog_2_method_5_code 13 = .ok (.iaload, 1) := by decide +kernel
theorem d_H_secondParentOf_14 : decode prog_2_method_5_code 14 = .ok (.goto 5, 3) := by decide +kernel
theorem d_H_secondParentOf_17 : decode prog_2_method_5_code 17 = .ok (.bipush (-2), 2) := by decide +kernel
theorem d_H_secondParentOf_19 : decode prog_2_method_5_code 19 = .ok (.ireturn, 1) := by decide +kernel
theorem d_H_firstParentOf_0 : decode prog_2_method_4_code 0 = .ok (.aload_n 0, 1) := by decide +kernel
theorem d_H_firstParentOf_1 : decode prog_2_method_4_code 1 = .ok (.iload_n 1, 1) := by decide +kernel
theorem d_H_firstParentOf_2 : decode prog_2_method_4_code 2 = .ok (.invokevirtual 29, 3) := by decide +kernel
theorem d_H_firstParentOf_5 : decode prog_2_method_4_code 5 = .ok (.ifCond .eq 12, 3) := by decide +kernel
theorem d_H_firstParentOf_8 : decode prog_2_method_4_code 8 = .ok (.aload_n 0, 1) := by decide +kernel
theorem d_H_firstParentOf_9 : decode prog_2_method_4_code 9 = .ok (.getfield 15, 3) := by decide +kernel
theorem d_H_firstParentOf_12 : decode prog_2_method_4_code 12 = .ok (.iload_n 1, 1) := by decide +kernel
theorem d_H_firstParentOf_13 : decode prog_2_method_4_code 13 = .ok (.iaload, 1) := by decide +kernel
theorem d_H_firstParentOf_14 : decode prog_2_method_4_code 14 = .ok (.goto 5, 3) := by decide +kernel
theorem d_H_firstParentOf_17 : decode prog_2_method_4_code 17 = .ok (.bipush (-2), 2) := by decide +kernel
theorem d_H_firstParentOf_19 : decode prog_2_method_4_code 19 = .ok (.ireturn, 1) := by decide +kernel
theorem d_H_cutBackTo_0 : decode prog_2_method_14_code 0 = .ok (.aload_n 0, 1) := by decide +kernel
theorem d_H_cutBackTo_1 : decode prog_2_method_14_code 1 = .ok (.iload_n 1, 1) := by decide +kernel
theorem d_H_cutBackTo_2 : decode prog_2_method_14_code 2 = .ok (.putfield 25, 3) := by decide +kernel
theorem d_H_cutBackTo_5 : decode prog_2_method_14_code 5 = .ok (.return_, 1) := by decide +kernel
theorem d_R_init_0 : decode prog_3_method_1_code 0 = .ok (.aload_n 0, 1) := by decide +kernel
theorem d_R_init_1 : decode prog_3_method_1_code 1 = .ok (.invokespecial 3, 3) := by decide +kernel
theorem d_R_init_4 : decode prog_3_method_1_code 4 = .ok (.aload_n 0, 1) := by decide +kernel
theorem d_R_init_5 : decode prog_3_method_1_code 5 = .ok (.iconst 4, 1) := by decide +kernel
theorem d_R_init_6 : decode prog_3_method_1_code 6 = .ok (.newarray .int, 2) := by decide +kernel
theorem d_R_init_8 : decode prog_3_method_1_code 8 = .ok (.putfield 9, 3) := by decide +kernel
theorem d_R_init_11 : decode prog_3_method_1_code 11 = .ok (.iconst 0, 1) := by decide +kernel
theorem d_R_init_12 : decode prog_3_method_1_code 12 = .ok (.istore_n 1, 1) := by decide +kernel
theorem d_R_init_13 : decode prog_3_method_1_code 13 = .ok (.iload_n 1, 1) := by decide +kernel
theorem d_R_init_14 : decode prog_3_method_1_code 14 = .ok (.iconst 4, 1) := by decide +kernel
theorem d_R_init_15 : decode prog_3_method_1_code 15 = .ok (.if_icmp .ge 17, 3) := by decide +kernel
theorem d_R_init_18 : decode prog_3_method_1_code 18 = .ok (.aload_n 0, 1) := by decide +kernel
theorem d_R_init_19 : decode prog_3_method_1_code 19 = .ok (.getfield 9, 3) := by decide +kernel
theorem d_R_init_22 : decode prog_3_method_1_code 22 = .ok (.iload_n 1, 1) := by decide +kernel
theorem d_R_init_23 : decode prog_3_method_1_code 23 = .ok (.bipush (-2), 2) := by decide +kernel
theorem d_R_init_25 : decode prog_3_method_1_code 25 = .ok (.iastore, 1) := by decide +kernel
theorem d_R_init_26 : decode prog_3_method_1_code 26 = .ok (.iinc 1 1, 3) := by decide +kernel
theorem d_R_init_29 : decode prog_3_method_1_code 29 = .ok (.goto (-16), 3) := by decide +kernel
theorem d_R_init_32 : decode prog_3_method_1_code 32 = .ok (.aload_n 0, 1) := by decide +kernel
theorem d_R_init_33 : decode prog_3_method_1_code 33 = .ok (.iconst 4, 1) := by decide +kernel
theorem d_R_init_34 : decode prog_3_method_1_code 34 = .ok (.newarray .long, 2) := by decide +kernel
theorem d_R_init_36 : decode prog_3_method_1_code 36 = .ok (.putfield 15, 3) := by decide +kernel
theorem d_R_init_39 : decode prog_3_method_1_code 39 = .ok (.aload_n 0, 1) := by decide +kernel
theorem d_R_init_40 : decode prog_3_method_1_code 40 = .ok (.iconst 4, 1) := by decide +kernel
theorem d_R_init_41 : decode prog_3_method_1_code 41 = .ok (.newarray .long, 2) := by decide +kernel
theorem d_R_init_43 : decode prog_3_method_1_code 43 = .ok (.putfield 19, 3) := by decide +kernel
theorem d_R_init_46 : decode prog_3_method_1_code 46 = .ok (.iconst 0, 1) := by decide +kernel
theorem d_R_init_47 : decode prog_3_method_1_code 47 = .ok (.istore_n 1, 1) := by decide +kernel
theorem d_R_init_48 : decode prog_3_method_1_code 48 = .ok (.iload_n 1, 1) := by decide +kernel
theorem d_R_init_49 : decode prog_3_method_1_code 49 = .ok (.iconst 4, 1) := by decide +kernel
theorem d_R_init_50 : decode prog_3_method_1_code 50 = .ok (.if_icmp .ge 27, 3) := by decide +kernel
theorem d_R_init_53 : decode prog_3_method_1_code 53 = .ok (.aload_n 0, 1) := by decide +kernel
theorem d_R_init_54 : decode prog_3_method_1_code 54 = .ok (.getfield 15, 3) := by decide +kernel
theorem d_R_init_57 : decode prog_3_method_1_code 57 = .ok (.iload_n 1, 1) := by decide +kernel
theorem d_R_init_58 : decode prog_3_method_1_code 58 = .ok (.ldc2_w 22, 3) := by decide +kernel
theorem d_R_init_61 : decode prog_3_method_1_code 61 = .ok (.lastore, 1) := by decide +kernel
theorem d_R_init_62 : decode prog_3_method_1_code 62 = .ok (.aload_n 0, 1) := by decide +kernel
theorem d_R_init_63 : decode prog_3_method_1_code 63 = .ok (.getfield 19, 3) := by decide +kernel
theorem d_R_init_66 : decode prog_3_method_1_code 66 = .ok (.iload_n 1, 1) := by decide +kernel
theorem d_R_init_67 : decode prog_3_method_1_code 67 = .ok (.ldc2_w 22, 3) := by decide +kernel
theorem d_R_init_70 : decode prog_3_method_1_code 70 = .ok (.lastore, 1) := by decide +kernel
theorem d_R_init_71 : decode prog_3_method_1_code 71 = .ok (.iinc 1 1, 3) := by decide +kernel
theorem d_R_init_74 : decode prog_3_method_1_code 74 = .ok (.goto (-26), 3) := by decide +kernel
theorem d_R_init_77 : decode prog_3_method_1_code 77 = .ok (.aload_n 0, 1) := by decide +kernel
theorem d_R_init_78 : decode prog_3_method_1_code 78 = .ok (.lconst 0, 1) := by decide +kernel
theorem d_R_init_79 : decode prog_3_method_1_code 79 = .ok (.putfield 24, 3) := by decide +kernel
theorem d_R_init_82 : decode prog_3_method_1_code 82 = .ok (.aload_n 0, 1) := by decide +kernel
theorem d_R_init_83 : decode prog_3_method_1_code 83 = .ok (.iconst 0, 1) := by decide +kernel
theorem d_R_init_84 : decode prog_3_method_1_code 84 = .ok (.putfield 28, 3) := by decide +kernel
theorem d_R_init_87 : decode prog_3_method_1_code 87 = .ok (.return_, 1) := by decide +kernel
end
section
/-! Decode rows. (Printed by gen_names.py.) -/
theorem d_R_head_0 : decode prog_3_method_2_code 0 = .ok (.aload_n 0, 1) := by decide +kernel
theorem d_R_head_1 : decode prog_3_method_2_code 1 = .ok (.getfield 9, 3) := by decide +kernel
theorem d_R_head_4 : decode prog_3_method_2_code 4 = .ok (.aload_n 0, 1) := by decide +kernel
theorem d_R_head_5 : decode prog_3_method_2_code 5 = .ok (.getfield 28, 3) := by decide +kernel
theorem d_R_head_8 : decode prog_3_method_2_code 8 = .ok (.iaload, 1) := by decide +kernel
theorem d_R_head_9 : decode prog_3_method_2_code 9 = .ok (.ireturn, 1) := by decide +kernel
theorem d_U_init_0 : decode prog_5_method_1_code 0 = .ok (.aload_n 0, 1) := by decide +kernel
theorem d_U_init_1 : decode prog_5_method_1_code 1 = .ok (.invokespecial 3, 3) := by decide +kernel
theorem d_U_init_4 : decode prog_5_method_1_code 4 = .ok (.aload_n 0, 1) := by decide +kernel
theorem d_U_init_5 : decode prog_5_method_1_code 5 = .ok (.iconst 4, 1) := by decide +kernel
theorem d_U_init_6 : decode prog_5_method_1_code 6 = .ok (.newarray .long, 2) := by decide +kernel
theorem d_U_init_8 : decode prog_5_method_1_code 8 = .ok (.putfield 9, 3) := by decide +kernel
theorem d_U_init_11 : decode prog_5_method_1_code 11 = .ok (.aload_n 0, 1) := by decide +kernel
theorem d_U_init_12 : decode prog_5_method_1_code 12 = .ok (.bipush 9, 2) := by decide +kernel
theorem d_U_init_14 : decode prog_5_method_1_code 14 = .ok (.newarray .int, 2) := by decide +kernel
theorem d_U_init_16 : decode prog_5_method_1_code 16 = .ok (.putfield 15, 3) := by decide +kernel
theorem d_U_init_19 : decode prog_5_method_1_code 19 = .ok (.aload_n 0, 1) := by decide +kernel
theorem d_U_init_20 : decode prog_5_method_1_code 20 = .ok (.bipush 9, 2) := by decide +kernel
theorem d_U_init_22 : decode prog_5_method_1_code 22 = .ok (.newarray .int, 2) := by decide +kernel
theorem d_U_init_24 : decode prog_5_method_1_code 24 = .ok (.putfield 19, 3) := by decide +kernel
theorem d_U_init_27 : decode prog_5_method_1_code 27 = .ok (.aload_n 0, 1) := by decide +kernel
theorem d_U_init_28 : decode prog_5_method_1_code 28 = .ok (.bipush 9, 2) := by decide +kernel
theorem d_U_init_30 : decode prog_5_method_1_code 30 = .ok (.bipush 9, 2) := by decide +kernel
theorem d_U_init_32 : decode prog_5_method_1_code 32 = .ok (.multianewarray 22 2, 4) := by decide +kernel
theorem d_U_init_36 : decode prog_5_method_1_code 36 = .ok (.putfield 24, 3) := by decide +kernel
theorem d_U_init_39 : decode prog_5_method_1_code 39 = .ok (.return_, 1) := by decide +kernel
theorem d_U_uniteSnapshots_0 : decode prog_5_method_2_code 0 = .ok (.iconst 0, 1) := by decide +kernel
theorem d_U_uniteSnapshots_1 : decode prog_5_method_2_code 1 = .ok (.istore 5, 2) := by decide +kernel
theorem d_U_uniteSnapshots_3 : decode prog_5_method_2_code 3 = .ok (.iload 5, 2) := by decide +kernel
theorem d_U_uniteSnapshots_5 : decode prog_5_method_2_code 5 = .ok (.iconst 4, 1) := by decide +kernel
theorem d_U_uniteSnapshots_6 : decode prog_5_method_2_code 6 = .ok (.if_icmp .ge 116, 3) := by decide +kernel
theorem d_U_uniteSnapshots_9 : decode prog_5_method_2_code 9 = .ok (.aload_n 1, 1) := by decide +kernel
theorem d_U_uniteSnapshots_10 : decode prog_5_method_2_code 10 = .ok (.iload_n 2, 1) := by decide +kernel
theorem d_U_uniteSnapshots_11 : decode prog_5_method_2_code 11 = .ok (.iload 5, 2) := by decide +kernel
theorem d_U_uniteSnapshots_13 : decode prog_5_method_2_code 13 = .ok (.invokevirtual 27, 3) := by decide +kernel
theorem d_U_uniteSnapshots_16 : decode prog_5_method_2_code 16 = .ok (.lstore 6, 2) := by decide +kernel
theorem d_U_uniteSnapshots_18 : decode prog_5_method_2_code 18 = .ok (.aload_n 1, 1) := by decide +kernel
theorem d_U_uniteSnapshots_19 : decode prog_5_method_2_code 19 = .ok (.iload_n 3, 1) := by decide +kernel
theorem d_U_uniteSnapshots_20 : decode prog_5_method_2_code 20 = .ok (.iload 5, 2) := by decide +kernel
theorem d_U_uniteSnapshots_22 : decode prog_5_method_2_code 22 = .ok (.invokevirtual 27, 3) := by decide +kernel
theorem d_U_uniteSnapshots_25 : decode prog_5_method_2_code 25 = .ok (.lstore 8, 2) := by decide +kernel
theorem d_U_uniteSnapshots_27 : decode prog_5_method_2_code 27 = .ok (.aload_n 1, 1) := by decide +kernel
theorem d_U_uniteSnapshots_28 : decode prog_5_method_2_code 28 = .ok (.iload 4, 2) := by decide +kernel
theorem d_U_uniteSnapshots_30 : decode prog_5_method_2_code 30 = .ok (.iload 5, 2) := by decide +kernel
theorem d_U_uniteSnapshots_32 : decode prog_5_method_2_code 32 = .ok (.invokevirtual 27, 3) := by decide +kernel
theorem d_U_uniteSnapshots_35 : decode prog_5_method_2_code 35 = .ok (.lstore 10, 2) := by decide +kernel
theorem d_U_uniteSnapshots_37 : decode prog_5_method_2_code 37 = .ok (.lload 6, 2) := by decide +kernel
theorem d_U_uniteSnapshots_39 : decode prog_5_method_2_code 39 = .ok (.lload 8, 2) := by decide +kernel
theorem d_U_uniteSnapshots_41 : decode prog_5_method_2_code 41 = .ok (.lload 10, 2) := by decide +kernel
theorem d_U_uniteSnapshots_43 : decode prog_5_method_2_code 43 = .ok (.invokestatic 33, 3) := by decide +kernel
theorem d_U_uniteSnapshots_46 : decode prog_5_method_2_code 46 = .ok (.lstore 12, 2) := by decide +kernel
theorem d_U_uniteSnapshots_48 : decode prog_5_method_2_code 48 = .ok (.lload 12, 2) := by decide +kernel
theorem d_U_uniteSnapshots_50 : decode prog_5_method_2_code 50 = .ok (.ldc2_w 37, 3) := by decide +kernel
theorem d_U_uniteSnapshots_53 : decode prog_5_method_2_code 53 = .ok (.lcmp, 1) := by decide +kernel
theorem d_U_uniteSnapshots_54 : decode prog_5_method_2_code 54 = .ok (.ifCond .ne 42, 3) := by decide +kernel
theorem d_U_uniteSnapshots_57 : decode prog_5_method_2_code 57 = .ok (.lload 6, 2) := by decide +kernel
theorem d_U_uniteSnapshots_59 : decode prog_5_method_2_code 59 = .ok (.ldc2_w 39, 3) := by decide +kernel
theorem d_U_uniteSnapshots_62 : decode prog_5_method_2_code 62 = .ok (.lcmp, 1) := by decide +kernel
theorem d_U_uniteSnapshots_63 : decode prog_5_method_2_code 63 = .ok (.ifCond .eq 33, 3) := by decide +kernel
theorem d_U_uniteSnapshots_66 : decode prog_5_method_2_code 66 = .ok (.lload 8, 2) := by decide +kernel
theorem d_U_uniteSnapshots_68 : decode prog_5_method_2_code 68 = .ok (.ldc2_w 39, 3) := by decide +kernel
theorem d_U_uniteSnapshots_71 : decode prog_5_method_2_code 71 = .ok (.lcmp, 1) := by decide +kernel
theorem d_U_uniteSnapshots_72 : decode prog_5_method_2_code 72 = .ok (.ifCond .eq 24, 3) := by decide +kernel
theorem d_U_uniteSnapshots_75 : decode prog_5_method_2_code 75 = .ok (.lload 10, 2) := by decide +kernel
theorem d_U_uniteSnapshots_77 : decode prog_5_method_2_code 77 = .ok (.ldc2_w 39, 3) := by decide +kernel
theorem d_U_uniteSnapshots_80 : decode prog_5_method_2_code 80 = .ok (.lcmp, 1) := by decide +kernel
theorem d_U_uniteSnapshots_81 : decode prog_5_method_2_code 81 = .ok (.ifCond .eq 15, 3) := by decide +kernel
theorem d_U_uniteSnapshots_84 : decode prog_5_method_2_code 84 = .ok (.aload_n 0, 1) := by decide +kernel
theorem d_U_uniteSnapshots_85 : decode prog_5_method_2_code 85 = .ok (.lload 6, 2) := by decide +kernel
theorem d_U_uniteSnapshots_87 : decode prog_5_method_2_code 87 = .ok (.lload 8, 2) := by decide +kernel
theorem d_U_uniteSnapshots_89 : decode prog_5_method_2_code 89 = .ok (.lload 10, 2) := by decide +kernel
theorem d_U_uniteSnapshots_91 : decode prog_5_method_2_code 91 = .ok (.invokevirtual 41, 3) := by decide +kernel
theorem d_U_uniteSnapshots_94 : decode prog_5_method_2_code 94 = .ok (.lstore 12, 2) := by decide +kernel
theorem d_U_uniteSnapshots_96 : decode prog_5_method_2_code 96 = .ok (.lload 12, 2) := by decide +kernel
theorem d_U_uniteSnapshots_98 : decode prog_5_method_2_code 98 = .ok (.ldc2_w 37, 3) := by decide +kernel
theorem d_U_uniteSnapshots_101 : decode prog_5_method_2_code 101 = .ok (.lcmp, 1) := by decide +kernel
theorem d_U_uniteSnapshots_102 : decode prog_5_method_2_code 102 = .ok (.ifCond .ne 5, 3) := by decide +kernel
theorem d_U_uniteSnapshots_105 : decode prog_5_method_2_code 105 = .ok (.iconst 0, 1) := by decide +kernel
theorem d_U_uniteSnapshots_106 : decode prog_5_method_2_code 106 = .ok (.ireturn, 1) := by decide +kernel
theorem d_U_uniteSnapshots_107 : decode prog_5_method_2_code 107 = .ok (.aload_n 0, 1) := by decide +kernel
theorem d_U_uniteSnapshots_108 : decode prog_5_method_2_code 108 = .ok (.getfield 9, 3) := by decide +kernel
theorem d_U_uniteSnapshots_111 : decode prog_5_method_2_code 111 = .ok (.iload 5, 2) := by decide +kernel
theorem d_U_uniteSnapshots_113 : decode prog_5_method_2_code 113 = .ok (.lload 12, 2) := by decide +kernel
theorem d_U_uniteSnapshots_115 : decode prog_5_method_2_code 115 = .ok (.lastore, 1) := by decide +kernel
theorem d_U_uniteSnapshots_116 : decode prog_5_method_2_code 116 = .ok (.iinc 5 1, 3) := by decide +kernel
theorem d_U_uniteSnapshots_119 : decode prog_5_method_2_code 119 = .ok (.goto (-116), 3) := by decide +kernel
theorem d_U_uniteSnapshots_122 : decode prog_5_method_2_code 122 = .ok (.iconst 1, 1) := by decide +kernel
theorem d_U_uniteSnapshots_123 : decode prog_5_method_2_code 123 = .ok (.ireturn, 1) := by decide +kernel
theorem d_U_take_0 : decode prog_5_method_3_code 0 = .ok (.lload_n 2, 1) := by decide +kernel
theorem d_U_take_1 : decode prog_5_method_3_code 1 = .ok (.lload_n 0, 1) := by decide +kernel
theorem d_U_take_2 : decode prog_5_method_3_code 2 = .ok (.lcmp, 1) := by decide +kernel
theorem d_U_take_3 : decode prog_5_method_3_code 3 = .ok (.ifCond .ne 6, 3) := by decide +kernel
theorem d_U_take_6 : decode prog_5_method_3_code 6 = .ok (.lload 4, 2) := by decide +kernel
theorem d_U_take_8 : decode prog_5_method_3_code 8 = .ok (.lreturn, 1) := by decide +kernel
theorem d_U_take_9 : decode prog_5_method_3_code 9 = .ok (.lload 4, 2) := by decide +kernel
theorem d_U_take_11 : decode prog_5_method_3_code 11 = .ok (.lload_n 0, 1) := by decide +kernel
theorem d_U_take_12 : decode prog_5_method_3_code 12 = .ok (.lcmp, 1) := by decide +kernel
theorem d_U_take_13 : decode prog_5_method_3_code 13 = .ok (.ifCond .eq 10, 3) := by decide +kernel
theorem d_U_take_16 : decode prog_5_method_3_code 16 = .ok (.lload 4, 2) := by decide +kernel
theorem d_U_take_18 : decode prog_5_method_3_code 18 = .ok (.lload_n 2, 1) := by decide +kernel
theorem d_U_take_19 : decode prog_5_method_3_code 19 = .ok (.lcmp, 1) := by decide +kernel
theorem d_U_take_20 : decode prog_5_method_3_code 20 = .ok (.ifCond .ne 7, 3) := by decide +kernel
theorem d_U_take_23 : decode prog_5_method_3_code 23 = .ok (.lload_n 2, 1) := by decide +kernel
theorem d_U_take_24 : decode prog_5_method_3_code 24 = .ok (.goto 6, 3) := by decide +kernel
theorem d_U_take_27 : decode prog_5_method_3_code 27 = .ok (.ldc2_w 37, 3) := by decide +kernel
theorem d_U_take_30 : decode prog_5_method_3_code 30 = .ok (.lreturn, 1) := by decide +kernel
theorem d_U_uniteTexts_0 : decode prog_5_method_4_code 0 = .ok (.aload_n 0, 1) := by decide +kernel
theorem d_U_uniteTexts_1 : decode prog_5_method_4_code 1 = .ok (.lload_n 1, 1) := by decide +kernel
theorem d_U_uniteTexts_2 : decode prog_5_method_4_code 2 = .ok (.lload_n 3, 1) := by decide +kernel
theorem d_U_uniteTexts_3 : decode prog_5_method_4_code 3 = .ok (.invokevirtual 44, 3) := by decide +kernel
theorem d_U_uniteTexts_6 : decode prog_5_method_4_code 6 = .ok (.aload_n 0, 1) := by decide +kernel
theorem d_U_uniteTexts_7 : decode prog_5_method_4_code 7 = .ok (.lload_n 1, 1) := by decide +kernel
theorem d_U_uniteTexts_8 : decode prog_5_method_4_code 8 = .ok (.lload_n 3, 1) := by decide +kernel
theorem d_U_uniteTexts_9 : decode prog_5_method_4_code 9 = .ok (.aload_n 0, 1) := by decide +kernel
theorem d_U_uniteTexts_10 : decode prog_5_method_4_code 10 = .ok (.getfield 15, 3) := by decide +kernel
theorem d_U_uniteTexts_13 : decode prog_5_method_4_code 13 = .ok (.invokevirtual 48, 3) := by decide +kernel
theorem d_U_uniteTexts_16 : decode prog_5_method_4_code 16 = .ok (.aload_n 0, 1) := by decide +kernel
theorem d_U_uniteTexts_17 : decode prog_5_method_4_code 17 = .ok (.lload_n 1, 1) := by decide +kernel
theorem d_U_uniteTexts_18 : decode prog_5_method_4_code 18 = .ok (.lload 5, 2) := by decide +kernel
theorem d_U_uniteTexts_20 : decode prog_5_method_4_code 20 = .ok (.invokevirtual 44, 3) := by decide +kernel
theorem d_U_uniteTexts_23 : decode prog_5_method_4_code 23 = .ok (.aload_n 0, 1) := by decide +kernel
theorem d_U_uniteTexts_24 : decode prog_5_method_4_code 24 = .ok (.lload_n 1, 1) := by decide +kernel
theorem d_U_uniteTexts_25 : decode prog_5_method_4_code 25 = .ok (.lload 5, 2) := by decide +kernel
theorem d_U_uniteTexts_27 : decode prog_5_method_4_code 27 = .ok (.aload_n 0, 1) := by decide +kernel
theorem d_U_uniteTexts_28 : decode prog_5_method_4_code 28 = .ok (.getfield 19, 3) := by decide +kernel
theorem d_U_uniteTexts_31 : decode prog_5_method_4_code 31 = .ok (.invokevirtual 48, 3) := by decide +kernel
theorem d_U_uniteTexts_34 : decode prog_5_method_4_code 34 = .ok (.lload_n 1, 1) := by decide +kernel
theorem d_U_uniteTexts_35 : decode prog_5_method_4_code 35 = .ok (.invokestatic 52, 3) := by decide +kernel
theorem d_U_uniteTexts_38 : decode prog_5_method_4_code 38 = .ok (.istore 7, 2) := by decide +kernel
theorem d_U_uniteTexts_40 : decode prog_5_method_4_code 40 = .ok (.iconst 0, 1) := by decide +kernel
theorem d_U_uniteTexts_41 : decode prog_5_method_4_code 41 = .ok (.istore 8, 2) := by decide +kernel
theorem d_U_uniteTexts_43 : decode prog_5_method_4_code 43 = .ok (.iconst 0, 1) := by decide +kernel
theorem d_U_uniteTexts_44 : decode prog_5_method_4_code 44 = .ok (.istore 9, 2) := by decide +kernel
theorem d_U_uniteTexts_46 : decode prog_5_method_4_code 46 = .ok (.iconst 0, 1) := by decide +kernel
theorem d_U_uniteTexts_47 : decode prog_5_method_4_code 47 = .ok (.istore 10, 2) := by decide +kernel
theorem d_U_uniteTexts_49 : decode prog_5_method_4_code 49 = .ok (.lconst 0, 1) := by decide +kernel
theorem d_U_uniteTexts_50 : decode prog_5_method_4_code 50 = .ok (.lstore 11, 2) := by decide +kernel
theorem d_U_uniteTexts_52 : decode prog_5_method_4_code 52 = .ok (.iconst 0, 1) := by decide +kernel
theorem d_U_uniteTexts_53 : decode prog_5_method_4_code 53 = .ok (.istore 13, 2) := by decide +kernel
theorem d_U_uniteTexts_55 : decode prog_5_method_4_code 55 = .ok (.iload 13, 2) := by decide +kernel
theorem d_U_uniteTexts_57 : decode prog_5_method_4_code 57 = .ok (.iload 7, 2) := by decide +kernel
theorem d_U_uniteTexts_59 : decode prog_5_method_4_code 59 = .ok (.if_icmp .gt 132, 3) := by decide +kernel
theorem d_U_uniteTexts_62 : decode prog_5_method_4_code 62 = .ok (.aload_n 0, 1) := by decide +kernel
theorem d_U_uniteTexts_63 : decode prog_5_method_4_code 63 = .ok (.getfield 15, 3) := by decide +kernel
theorem d_U_uniteTexts_66 : decode prog_5_method_4_code 66 = .ok (.iload 13, 2) := by decide +kernel
theorem d_U_uniteTexts_68 : decode prog_5_method_4_code 68 = .ok (.iaload, 1) := by decide +kernel
theorem d_U_uniteTexts_69 : decode prog_5_method_4_code 69 = .ok (.iconst (-1), 1) := by decide +kernel
theorem d_U_uniteTexts_70 : decode prog_5_method_4_code 70 = .ok (.if_icmp .eq 115, 3) := by decide +kernel
theorem d_U_uniteTexts_73 : decode prog_5_method_4_code 73 = .ok (.aload_n 0, 1) := by decide +kernel
theorem d_U_uniteTexts_74 : decode prog_5_method_4_code 74 = .ok (.getfield 19, 3) := by decide +kernel
theorem d_U_uniteTexts_77 : decode prog_5_method_4_code 77 = .ok (.iload 13, 2) := by decide +kernel
theorem d_U_uniteTexts_79 : decode prog_5_method_4_code 79 = .ok (.iaload, 1) := by decide +kernel
theorem d_U_uniteTexts_80 : decode prog_5_method_4_code 80 = .ok (.iconst (-1), 1) := by decide +kernel
theorem d_U_uniteTexts_81 : decode prog_5_method_4_code 81 = .ok (.if_icmp .eq 104, 3) := by decide +kernel
theorem d_U_uniteTexts_84 : decode prog_5_method_4_code 84 = .ok (.lload_n 1, 1) := by decide +kernel
theorem d_U_uniteTexts_85 : decode prog_5_method_4_code 85 = .ok (.iload 8, 2) := by decide +kernel
theorem d_U_uniteTexts_87 : decode prog_5_method_4_code 87 = .ok (.iload 13, 2) := by decide +kernel
theorem d_U_uniteTexts_89 : decode prog_5_method_4_code 89 = .ok (.invokestatic 58, 3) := by decide +kernel
theorem d_U_uniteTexts_92 : decode prog_5_method_4_code 92 = .ok (.lload_n 3, 1) := by decide +kernel
theorem d_U_uniteTexts_93 : decode prog_5_method_4_code 93 = .ok (.iload 9, 2) := by decide +kernel
theorem d_U_uniteTexts_95 : decode prog_5_method_4_code 95 = .ok (.aload_n 0, 1) := by decide +kernel
theorem d_U_uniteTexts_96 : decode prog_5_method_4_code 96 = .ok (.getfield 15, 3) := by decide +kernel
theorem d_U_uniteTexts_99 : decode prog_5_method_4_code 99 = .ok (.iload 13, 2) := by decide +kernel
theorem d_U_uniteTexts_101 : decode prog_5_method_4_code 101 = .ok (.iaload, 1) := by decide +kernel
theorem d_U_uniteTexts_102 : decode prog_5_method_4_code 102 = .ok (.invokestatic 58, 3) := by decide +kernel
theorem d_U_uniteTexts_105 : decode prog_5_method_4_code 105 = .ok (.lload 5, 2) := by decide +kernel
theorem d_U_uniteTexts_107 : decode prog_5_method_4_code 107 = .ok (.iload 10, 2) := by decide +kernel
theorem d_U_uniteTexts_109 : decode prog_5_method_4_code 109 = .ok (.aload_n 0, 1) := by decide +kernel
theorem d_U_uniteTexts_110 : decode prog_5_method_4_code 110 = .ok (.getfield 19, 3) := by decide +kernel
theorem d_U_uniteTexts_113 : decode prog_5_method_4_code 113 = .ok (.iload 13, 2) := by decide +kernel
theorem d_U_uniteTexts_115 : decode prog_5_method_4_code 115 = .ok (.iaload, 1) := by decide +kernel
theorem d_U_uniteTexts_116 : decode prog_5_method_4_code 116 = .ok (.invokestatic 58, 3) := by decide +kernel
theorem d_U_uniteTexts_119 : decode prog_5_method_4_code 119 = .ok (.invokestatic 33, 3) := by decide +kernel
theorem d_U_uniteTexts_122 : decode prog_5_method_4_code 122 = .ok (.lstore 14, 2) := by decide +kernel
theorem d_U_uniteTexts_124 : decode prog_5_method_4_code 124 = .ok (.lload 11, 2) := by decide +kernel
theorem d_U_uniteTexts_126 : decode prog_5_method_4_code 126 = .ok (.lload 14, 2) := by decide +kernel
theorem d_U_uniteTexts_128 : decode prog_5_method_4_code 128 = .ok (.invokestatic 62, 3) := by decide +kernel
theorem d_U_uniteTexts_131 : decode prog_5_method_4_code 131 = .ok (.lstore 11, 2) := by decide +kernel
theorem d_U_uniteTexts_133 : decode prog_5_method_4_code 133 = .ok (.iload 13, 2) := by decide +kernel
theorem d_U_uniteTexts_135 : decode prog_5_method_4_code 135 = .ok (.iconst 1, 1) := by decide +kernel
theorem d_U_uniteTexts_136 : decode prog_5_method_4_code 136 = .ok (.iadd, 1) := by decide +kernel
theorem d_U_uniteTexts_137 : decode prog_5_method_4_code 137 = .ok (.istore 8, 2) := by decide +kernel
theorem d_U_uniteTexts_139 : decode prog_5_method_4_code 139 = .ok (.aload_n 0, 1) := by decide +kernel
theorem d_U_uniteTexts_140 : decode prog_5_method_4_code 140 = .ok (.getfield 15, 3) := by decide +kernel
theorem d_U_uniteTexts_143 : decode prog_5_method_4_code 143 = .ok (.iload 13, 2) := by decide +kernel
theorem d_U_uniteTexts_145 : decode prog_5_method_4_code 145 = .ok (.iaload, 1) := by decide +kernel
theorem d_U_uniteTexts_146 : decode prog_5_method_4_code 146 = .ok (.iconst 1, 1) := by decide +kernel
theorem d_U_uniteTexts_147 : decode prog_5_method_4_code 147 = .ok (.iadd, 1) := by decide +kernel
theorem d_U_uniteTexts_148 : decode prog_5_method_4_code 148 = .ok (.istore 9, 2) := by decide +kernel
theorem d_U_uniteTexts_150 : decode prog_5_method_4_code 150 = .ok (.aload_n 0, 1) := by decide +kernel
theorem d_U_uniteTexts_151 : decode prog_5_method_4_code 151 = .ok (.getfield 19, 3) := by decide +kernel
theorem d_U_uniteTexts_154 : decode prog_5_method_4_code 154 = .ok (.iload 13, 2) := by decide +kernel
theorem d_U_uniteTexts_156 : decode prog_5_method_4_code 156 = .ok (.iaload, 1) := by decide +kernel
theorem d_U_uniteTexts_157 : decode prog_5_method_4_code 157 = .ok (.iconst 1, 1) := by decide +kernel
theorem d_U_uniteTexts_158 : decode prog_5_method_4_code 158 = .ok (.iadd, 1) := by decide +kernel
theorem d_U_uniteTexts_159 : decode prog_5_method_4_code 159 = .ok (.istore 10, 2) := by decide +kernel
theorem d_U_uniteTexts_161 : decode prog_5_method_4_code 161 = .ok (.iload 13, 2) := by decide +kernel
theorem d_U_uniteTexts_163 : decode prog_5_method_4_code 163 = .ok (.iload 7, 2) := by decide +kernel
theorem d_U_uniteTexts_165 : decode prog_5_method_4_code 165 = .ok (.if_icmp .ge 20, 3) := by decide +kernel
theorem d_U_uniteTexts_168 : decode prog_5_method_4_code 168 = .ok (.lload 11, 2) := by decide +kernel
theorem d_U_uniteTexts_170 : decode prog_5_method_4_code 170 = .ok (.lload_n 1, 1) := by decide +kernel
theorem d_U_uniteTexts_171 : decode prog_5_method_4_code 171 = .ok (.iload 13, 2) := by decide +kernel
theorem d_U_uniteTexts_173 : decode prog_5_method_4_code 173 = .ok (.iload 13, 2) := by decide +kernel
theorem d_U_uniteTexts_175 : decode prog_5_method_4_code 175 = .ok (.iconst 1, 1) := by decide +kernel
theorem d_U_uniteTexts_176 : decode prog_5_method_4_code 176 = .ok (.iadd, 1) := by decide +kernel
theorem d_U_uniteTexts_177 : decode prog_5_method_4_code 177 = .ok (.invokestatic 58, 3) := by decide +kernel
theorem d_U_uniteTexts_180 : decode prog_5_method_4_code 180 = .ok (.invokestatic 62, 3) := by decide +kernel
theorem d_U_uniteTexts_183 : decode prog_5_method_4_code 183 = .ok (.lstore 11, 2) := by decide +kernel
theorem d_U_uniteTexts_185 : decode prog_5_method_4_code 185 = .ok (.iinc 13 1, 3) := by decide +kernel
theorem d_U_uniteTexts_188 : decode prog_5_method_4_code 188 = .ok (.goto (-133), 3) := by decide +kernel
theorem d_U_uniteTexts_191 : decode prog_5_method_4_code 191 = .ok (.lload 11, 2) := by decide +kernel
theorem d_U_uniteTexts_193 : decode prog_5_method_4_code 193 = .ok (.lreturn, 1) := by decide +kernel
theorem d_U_countCommon_0 : decode prog_5_method_6_code 0 = .ok (.lload_n 1, 1) := by decide +kernel
theorem d_U_countCommon_1 : decode prog_5_method_6_code 1 = .ok (.invokestatic 52, 3) := by decide +kernel
theorem d_U_countCommon_4 : decode prog_5_method_6_code 4 = .ok (.istore 5, 2) := by decide +kernel
theorem d_U_countCommon_6 : decode prog_5_method_6_code 6 = .ok (.lload_n 3, 1) := by decide +kernel
theorem d_U_countCommon_7 : decode prog_5_method_6_code 7 = .ok (.invokestatic 52, 3) := by decide +kernel
theorem d_U_countCommon_10 : decode prog_5_method_6_code 10 = .ok (.istore 6, 2) := by decide +kernel
theorem d_U_countCommon_12 : decode prog_5_method_6_code 12 = .ok (.iload 5, 2) := by decide +kernel
theorem d_U_countCommon_14 : decode prog_5_method_6_code 14 = .ok (.istore 7, 2) := by decide +kernel
theorem d_U_countCommon_16 : decode prog_5_method_6_code 16 = .ok (.iload 7, 2) := by decide +kernel
theorem d_U_countCommon_18 : decode prog_5_method_6_code 18 = .ok (.ifCond .lt 134, 3) := by decide +kernel
theorem d_U_countCommon_21 : decode prog_5_method_6_code 21 = .ok (.iload 6, 2) := by decide +kernel
theorem d_U_countCommon_23 : decode prog_5_method_6_code 23 = .ok (.istore 8, 2) := by decide +kernel
theorem d_U_countCommon_25 : decode prog_5_method_6_code 25 = .ok (.iload 8, 2) := by decide +kernel
theorem d_U_countCommon_27 : decode prog_5_method_6_code 27 = .ok (.ifCond .lt 119, 3) := by decide +kernel
theorem d_U_countCommon_30 : decode prog_5_method_6_code 30 = .ok (.iload 7, 2) := by decide +kernel
theorem d_U_countCommon_32 : decode prog_5_method_6_code 32 = .ok (.iload 5, 2) := by decide +kernel
theorem d_U_countCommon_34 : decode prog_5_method_6_code 34 = .ok (.if_icmp .eq 10, 3) := by decide +kernel
theorem d_U_countCommon_37 : decode prog_5_method_6_code 37 = .ok (.iload 8, 2) := by decide +kernel
theorem d_U_countCommon_39 : decode prog_5_method_6_code 39 = .ok (.iload 6, 2) := by decide +kernel
theorem d_U_countCommon_41 : decode prog_5_method_6_code 41 = .ok (.if_icmp .ne 17, 3) := by decide +kernel
theorem d_U_countCommon_44 : decode prog_5_method_6_code 44 = .ok (.aload_n 0, 1) := by decide +kernel
theorem d_U_countCommon_45 : decode prog_5_method_6_code 45 = .ok (.getfield 24, 3) := by decide +kernel
theorem d_U_countCommon_48 : decode prog_5_method_6_code 48 = .ok (.iload 7, 2) := by decide +kernel
theorem d_U_countCommon_50 : decode prog_5_method_6_code 50 = .ok (.aaload, 1) := by decide +kernel
theorem d_U_countCommon_51 : decode prog_5_method_6_code 51 = .ok (.iload 8, 2) := by decide +kernel
theorem d_U_countCommon_53 : decode prog_5_method_6_code 53 = .ok (.iconst 0, 1) := by decide +kernel
theorem d_U_countCommon_54 : decode prog_5_method_6_code 54 = .ok (.iastore, 1) := by decide +kernel
theorem d_U_countCommon_55 : decode prog_5_method_6_code 55 = .ok (.goto 85, 3) := by decide +kernel
theorem d_U_countCommon_58 : decode prog_5_method_6_code 58 = .ok (.lload_n 1, 1) := by decide +kernel
theorem d_U_countCommon_59 : decode prog_5_method_6_code 59 = .ok (.iload 7, 2) := by decide +kernel
theorem d_U_countCommon_61 : decode prog_5_method_6_code 61 = .ok (.invokestatic 66, 3) := by decide +kernel
theorem d_U_countCommon_64 : decode prog_5_method_6_code 64 = .ok (.lload_n 3, 1) := by decide +kernel
theorem d_U_countCommon_65 : decode prog_5_method_6_code 65 = .ok (.iload 8, 2) := by decide +kernel
theorem d_U_countCommon_67 : decode prog_5_method_6_code 67 = .ok (.invokestatic 66, 3) := by decide +kernel
theorem d_U_countCommon_70 : decode prog_5_method_6_code 70 = .ok (.lcmp, 1) := by decide +kernel
theorem d_U_countCommon_71 : decode prog_5_method_6_code 71 = .ok (.ifCond .ne 32, 3) := by decide +kernel
theorem d_U_countCommon_74 : decode prog_5_method_6_code 74 = .ok (.aload_n 0, 1) := by decide +kernel
theorem d_U_countCommon_75 : decode prog_5_method_6_code 75 = .ok (.getfield 24, 3) := by decide +kernel
theorem d_U_countCommon_78 : decode prog_5_method_6_code 78 = .ok (.iload 7, 2) := by decide +kernel
theorem d_U_countCommon_80 : decode prog_5_method_6_code 80 = .ok (.aaload, 1) := by decide +kernel
theorem d_U_countCommon_81 : decode prog_5_method_6_code 81 = .ok (.iload 8, 2) := by decide +kernel
theorem d_U_countCommon_83 : decode prog_5_method_6_code 83 = .ok (.aload_n 0, 1) := by decide +kernel
theorem d_U_countCommon_84 : decode prog_5_method_6_code 84 = .ok (.getfield 24, 3) := by decide +kernel
theorem d_U_countCommon_87 : decode prog_5_method_6_code 87 = .ok (.iload 7, 2) := by decide +kernel
theorem d_U_countCommon_89 : decode prog_5_method_6_code 89 = .ok (.iconst 1, 1) := by decide +kernel
theorem d_U_countCommon_90 : decode prog_5_method_6_code 90 = .ok (.iadd, 1) := by decide +kernel
theorem d_U_countCommon_91 : decode prog_5_method_6_code 91 = .ok (.aaload, 1) := by decide +kernel
theorem d_U_countCommon_92 : decode prog_5_method_6_code 92 = .ok (.iload 8, 2) := by decide +kernel
theorem d_U_countCommon_94 : decode prog_5_method_6_code 94 = .ok (.iconst 1, 1) := by decide +kernel
theorem d_U_countCommon_95 : decode prog_5_method_6_code 95 = .ok (.iadd, 1) := by decide +kernel
theorem d_U_countCommon_96 : decode prog_5_method_6_code 96 = .ok (.iaload, 1) := by decide +kernel
theorem d_U_countCommon_97 : decode prog_5_method_6_code 97 = .ok (.iconst 1, 1) := by decide +kernel
theorem d_U_countCommon_98 : decode prog_5_method_6_code 98 = .ok (.iadd, 1) := by decide +kernel
theorem d_U_countCommon_99 : decode prog_5_method_6_code 99 = .ok (.iastore, 1) := by decide +kernel
theorem d_U_countCommon_100 : decode prog_5_method_6_code 100 = .ok (.goto 40, 3) := by decide +kernel
theorem d_U_countCommon_103 : decode prog_5_method_6_code 103 = .ok (.aload_n 0, 1) := by decide +kernel
theorem d_U_countCommon_104 : decode prog_5_method_6_code 104 = .ok (.getfield 24, 3) := by decide +kernel
theorem d_U_countCommon_107 : decode prog_5_method_6_code 107 = .ok (.iload 7, 2) := by decide +kernel
theorem d_U_countCommon_109 : decode prog_5_method_6_code 109 = .ok (.aaload, 1) := by decide +kernel
theorem d_U_countCommon_110 : decode prog_5_method_6_code 110 = .ok (.iload 8, 2) := by decide +kernel
theorem d_U_countCommon_112 : decode prog_5_method_6_code 112 = .ok (.aload_n 0, 1) := by decide +kernel
theorem d_U_countCommon_113 : decode prog_5_method_6_code 113 = .ok (.getfield 24, 3) := by decide +kernel
theorem d_U_countCommon_116 : decode prog_5_method_6_code 116 = .ok (.iload 7, 2) := by decide +kernel
theorem d_U_countCommon_118 : decode prog_5_method_6_code 118 = .ok (.iconst 1, 1) := by decide +kernel
theorem d_U_countCommon_119 : decode prog_5_method_6_code 119 = .ok (.iadd, 1) := by decide +kernel
theorem d_U_countCommon_120 : decode prog_5_method_6_code 120 = .ok (.aaload, 1) := by decide +kernel
theorem d_U_countCommon_121 : decode prog_5_method_6_code 121 = .ok (.iload 8, 2) := by decide +kernel
theorem d_U_countCommon_123 : decode prog_5_method_6_code 123 = .ok (.iaload, 1) := by decide +kernel
theorem d_U_countCommon_124 : decode prog_5_method_6_code 124 = .ok (.aload_n 0, 1) := by decide +kernel
theorem d_U_countCommon_125 : decode prog_5_method_6_code 125 = .ok (.getfield 24, 3) := by decide +kernel
theorem d_U_countCommon_128 : decode prog_5_method_6_code 128 = .ok (.iload 7, 2) := by decide +kernel
theorem d_U_countCommon_130 : decode prog_5_method_6_code 130 = .ok (.aaload, 1) := by decide +kernel
theorem d_U_countCommon_131 : decode prog_5_method_6_code 131 = .ok (.iload 8, 2) := by decide +kernel
theorem d_U_countCommon_133 : decode prog_5_method_6_code 133 = .ok (.iconst 1, 1) := by decide +kernel
theorem d_U_countCommon_134 : decode prog_5_method_6_code 134 = .ok (.iadd, 1) := by decide +kernel
theorem d_U_countCommon_135 : decode prog_5_method_6_code 135 = .ok (.iaload, 1) := by decide +kernel
theorem d_U_countCommon_136 : decode prog_5_method_6_code 136 = .ok (.invokestatic 70, 3) := by decide +kernel
theorem d_U_countCommon_139 : decode prog_5_method_6_code 139 = .ok (.iastore, 1) := by decide +kernel
theorem d_U_countCommon_140 : decode prog_5_method_6_code 140 = .ok (.iinc 8 (-1), 3) := by decide +kernel
theorem d_U_countCommon_143 : decode prog_5_method_6_code 143 = .ok (.goto (-118), 3) := by decide +kernel
theorem d_U_countCommon_146 : decode prog_5_method_6_code 146 = .ok (.iinc 7 (-1), 3) := by decide +kernel
theorem d_U_countCommon_149 : decode prog_5_method_6_code 149 = .ok (.goto (-133), 3) := by decide +kernel
theorem d_U_countCommon_152 : decode prog_5_method_6_code 152 = .ok (.return_, 1) := by decide +kernel
theorem d_U_matchLines_0 : decode prog_5_method_5_code 0 = .ok (.lload_n 1, 1) := by decide +kernel
theorem d_U_matchLines_1 : decode prog_5_method_5_code 1 = .ok (.invokestatic 52, 3) := by decide +kernel
theorem d_U_matchLines_4 : decode prog_5_method_5_code 4 = .ok (.istore 6, 2) := by decide +kernel
theorem d_U_matchLines_6 : decode prog_5_method_5_code 6 = .ok (.lload_n 3, 1) := by decide +kernel
theorem d_U_matchLines_7 : decode prog_5_method_5_code 7 = .ok (.invokestatic 52, 3) := by decide +kernel
theorem d_U_matchLines_10 : decode prog_5_method_5_code 10 = .ok (.istore 7, 2) := by decide +kernel
theorem d_U_matchLines_12 : decode prog_5_method_5_code 12 = .ok (.iconst 0, 1) := by decide +kernel
theorem d_U_matchLines_13 : decode prog_5_method_5_code 13 = .ok (.istore 8, 2) := by decide +kernel
theorem d_U_matchLines_15 : decode prog_5_method_5_code 15 = .ok (.iload 8, 2) := by decide +kernel
theorem d_U_matchLines_17 : decode prog_5_method_5_code 17 = .ok (.iload 6, 2) := by decide +kernel
theorem d_U_matchLines_19 : decode prog_5_method_5_code 19 = .ok (.if_icmp .ge 15, 3) := by decide +kernel
theorem d_U_matchLines_22 : decode prog_5_method_5_code 22 = .ok (.aload 5, 2) := by decide +kernel
theorem d_U_matchLines_24 : decode prog_5_method_5_code 24 = .ok (.iload 8, 2) := by decide +kernel
theorem d_U_matchLines_26 : decode prog_5_method_5_code 26 = .ok (.iconst (-1), 1) := by decide +kernel
theorem d_U_matchLines_27 : decode prog_5_method_5_code 27 = .ok (.iastore, 1) := by decide +kernel
theorem d_U_matchLines_28 : decode prog_5_method_5_code 28 = .ok (.iinc 8 1, 3) := by decide +kernel
theorem d_U_matchLines_31 : decode prog_5_method_5_code 31 = .ok (.goto (-16), 3) := by decide +kernel
theorem d_U_matchLines_34 : decode prog_5_method_5_code 34 = .ok (.aload 5, 2) := by decide +kernel
theorem d_U_matchLines_36 : decode prog_5_method_5_code 36 = .ok (.iload 6, 2) := by decide +kernel
theorem d_U_matchLines_38 : decode prog_5_method_5_code 38 = .ok (.iload 7, 2) := by decide +kernel
theorem d_U_matchLines_40 : decode prog_5_method_5_code 40 = .ok (.iastore, 1) := by decide +kernel
theorem d_U_matchLines_41 : decode prog_5_method_5_code 41 = .ok (.iconst 0, 1) := by decide +kernel
theorem d_U_matchLines_42 : decode prog_5_method_5_code 42 = .ok (.istore 8, 2) := by decide +kernel
theorem d_U_matchLines_44 : decode prog_5_method_5_code 44 = .ok (.iconst 0, 1) := by decide +kernel
theorem d_U_matchLines_45 : decode prog_5_method_5_code 45 = .ok (.istore 9, 2) := by decide +kernel
theorem d_U_matchLines_47 : decode prog_5_method_5_code 47 = .ok (.iload 8, 2) := by decide +kernel
theorem d_U_matchLines_49 : decode prog_5_method_5_code 49 = .ok (.iload 6, 2) := by decide +kernel
theorem d_U_matchLines_51 : decode prog_5_method_5_code 51 = .ok (.if_icmp .ge 81, 3) := by decide +kernel
theorem d_U_matchLines_54 : decode prog_5_method_5_code 54 = .ok (.iload 9, 2) := by decide +kernel
theorem d_U_matchLines_56 : decode prog_5_method_5_code 56 = .ok (.iload 7, 2) := by decide +kernel
theorem d_U_matchLines_58 : decode prog_5_method_5_code 58 = .ok (.if_icmp .ge 74, 3) := by decide +kernel
theorem d_U_matchLines_61 : decode prog_5_method_5_code 61 = .ok (.lload_n 1, 1) := by decide +kernel
theorem d_U_matchLines_62 : decode prog_5_method_5_code 62 = .ok (.iload 8, 2) := by decide +kernel
theorem d_U_matchLines_64 : decode prog_5_method_5_code 64 = .ok (.invokestatic 66, 3) := by decide +kernel
theorem d_U_matchLines_67 : decode prog_5_method_5_code 67 = .ok (.lload_n 3, 1) := by decide +kernel
theorem d_U_matchLines_68 : decode prog_5_method_5_code 68 = .ok (.iload 9, 2) := by decide +kernel
theorem d_U_matchLines_70 : decode prog_5_method_5_code 70 = .ok (.invokestatic 66, 3) := by decide +kernel
theorem d_U_matchLines_73 : decode prog_5_method_5_code 73 = .ok (.lcmp, 1) := by decide +kernel
theorem d_U_matchLines_74 : decode prog_5_method_5_code 74 = .ok (.ifCond .ne 19, 3) := by decide +kernel
theorem d_U_matchLines_77 : decode prog_5_method_5_code 77 = .ok (.aload 5, 2) := by decide +kernel
theorem d_U_matchLines_79 : decode prog_5_method_5_code 79 = .ok (.iload 8, 2) := by decide +kernel
theorem d_U_matchLines_81 : decode prog_5_method_5_code 81 = .ok (.iload 9, 2) := by decide +kernel
theorem d_U_matchLines_83 : decode prog_5_method_5_code 83 = .ok (.iastore, 1) := by decide +kernel
theorem d_U_matchLines_84 : decode prog_5_method_5_code 84 = .ok (.iinc 8 1, 3) := by decide +kernel
theorem d_U_matchLines_87 : decode prog_5_method_5_code 87 = .ok (.iinc 9 1, 3) := by decide +kernel
theorem d_U_matchLines_90 : decode prog_5_method_5_code 90 = .ok (.goto (-43), 3) := by decide +kernel
theorem d_U_matchLines_93 : decode prog_5_method_5_code 93 = .ok (.aload_n 0, 1) := by decide +kernel
theorem d_U_matchLines_94 : decode prog_5_method_5_code 94 = .ok (.getfield 24, 3) := by decide +kernel
theorem d_U_matchLines_97 : decode prog_5_method_5_code 97 = .ok (.iload 8, 2) := by decide +kernel
theorem d_U_matchLines_99 : decode prog_5_method_5_code 99 = .ok (.iconst 1, 1) := by decide +kernel
theorem d_U_matchLines_100 : decode prog_5_method_5_code 100 = .ok (.iadd, 1) := by decide +kernel
theorem d_U_matchLines_101 : decode prog_5_method_5_code 101 = .ok (.aaload, 1) := by decide +kernel
theorem d_U_matchLines_102 : decode prog_5_method_5_code 102 = .ok (.iload 9, 2) := by decide +kernel
theorem d_U_matchLines_104 : decode prog_5_method_5_code 104 = .ok (.iaload, 1) := by decide +kernel
theorem d_U_matchLines_105 : decode prog_5_method_5_code 105 = .ok (.aload_n 0, 1) := by decide +kernel
theorem d_U_matchLines_106 : decode prog_5_method_5_code 106 = .ok (.getfield 24, 3) := by decide +kernel
theorem d_U_matchLines_109 : decode prog_5_method_5_code 109 = .ok (.iload 8, 2) := by decide +kernel
theorem d_U_matchLines_111 : decode prog_5_method_5_code 111 = .ok (.aaload, 1) := by decide +kernel
theorem d_U_matchLines_112 : decode prog_5_method_5_code 112 = .ok (.iload 9, 2) := by decide +kernel
theorem d_U_matchLines_114 : decode prog_5_method_5_code 114 = .ok (.iconst 1, 1) := by decide +kernel
theorem d_U_matchLines_115 : decode prog_5_method_5_code 115 = .ok (.iadd, 1) := by decide +kernel
theorem d_U_matchLines_116 : decode prog_5_method_5_code 116 = .ok (.iaload, 1) := by decide +kernel
theorem d_U_matchLines_117 : decode prog_5_method_5_code 117 = .ok (.if_icmp .lt 9, 3) := by decide +kernel
theorem d_U_matchLines_120 : decode prog_5_method_5_code 120 = .ok (.iinc 8 1, 3) := by decide +kernel
theorem d_U_matchLines_123 : decode prog_5_method_5_code 123 = .ok (.goto (-76), 3) := by decide +kernel
theorem d_U_matchLines_126 : decode prog_5_method_5_code 126 = .ok (.iinc 9 1, 3) := by decide +kernel
theorem d_U_matchLines_129 : decode prog_5_method_5_code 129 = .ok (.goto (-82), 3) := by decide +kernel
theorem d_U_matchLines_132 : decode prog_5_method_5_code 132 = .ok (.return_, 1) := by decide +kernel
theorem d_T_pack_0 : decode prog_4_method_2_code 0 = .ok (.lconst 1, 1) := by decide +kernel
theorem d_T_pack_1 : decode prog_4_method_2_code 1 = .ok (.iconst 4, 1) := by decide +kernel
theorem d_T_pack_2 : decode prog_4_method_2_code 2 = .ok (.iload_n 2, 1) := by decide +kernel
theorem d_T_pack_3 : decode prog_4_method_2_code 3 = .ok (.imul, 1) := by decide +kernel
theorem d_T_pack_4 : decode prog_4_method_2_code 4 = .ok (.lshl, 1) := by decide +kernel
theorem d_T_pack_5 : decode prog_4_method_2_code 5 = .ok (.lconst 1, 1) := by decide +kernel
theorem d_T_pack_6 : decode prog_4_method_2_code 6 = .ok (.lsub, 1) := by decide +kernel
theorem d_T_pack_7 : decode prog_4_method_2_code 7 = .ok (.lstore_n 3, 1) := by decide +kernel
theorem d_T_pack_8 : decode prog_4_method_2_code 8 = .ok (.iload_n 2, 1) := by decide +kernel
theorem d_T_pack_9 : decode prog_4_method_2_code 9 = .ok (.i2l, 1) := by decide +kernel
theorem d_T_pack_10 : decode prog_4_method_2_code 10 = .ok (.bipush 32, 2) := by decide +kernel
theorem d_T_pack_12 : decode prog_4_method_2_code 12 = .ok (.lshl, 1) := by decide +kernel
theorem d_T_pack_13 : decode prog_4_method_2_code 13 = .ok (.lload_n 0, 1) := by decide +kernel
theorem d_T_pack_14 : decode prog_4_method_2_code 14 = .ok (.lload_n 3, 1) := by decide +kernel
theorem d_T_pack_15 : decode prog_4_method_2_code 15 = .ok (.land, 1) := by decide +kernel
theorem d_T_pack_16 : decode prog_4_method_2_code 16 = .ok (.lor, 1) := by decide +kernel
theorem d_T_pack_17 : decode prog_4_method_2_code 17 = .ok (.lreturn, 1) := by decide +kernel
theorem d_T_countOf_0 : decode prog_4_method_3_code 0 = .ok (.lload_n 0, 1) := by decide +kernel
theorem d_T_countOf_1 : decode prog_4_method_3_code 1 = .ok (.bipush 32, 2) := by decide +kernel
theorem d_T_countOf_3 : decode prog_4_method_3_code 3 = .ok (.lushr, 1) := by decide +kernel
theorem d_T_countOf_4 : decode prog_4_method_3_code 4 = .ok (.l2i, 1) := by decide +kernel
theorem d_T_countOf_5 : decode prog_4_method_3_code 5 = .ok (.ireturn, 1) := by decide +kernel
theorem d_T_lineAt_0 : decode prog_4_method_4_code 0 = .ok (.lload_n 0, 1) := by decide +kernel
theorem d_T_lineAt_1 : decode prog_4_method_4_code 1 = .ok (.iconst 4, 1) := by decide +kernel
theorem d_T_lineAt_2 : decode prog_4_method_4_code 2 = .ok (.iload_n 2, 1) := by decide +kernel
theorem d_T_lineAt_3 : decode prog_4_method_4_code 3 = .ok (.imul, 1) := by decide +kernel
theorem d_T_lineAt_4 : decode prog_4_method_4_code 4 = .ok (.lushr, 1) := by decide +kernel
theorem d_T_lineAt_5 : decode prog_4_method_4_code 5 = .ok (.ldc2_w 11, 3) := by decide +kernel
theorem d_T_lineAt_8 : decode prog_4_method_4_code 8 = .ok (.land, 1) := by decide +kernel
theorem d_T_lineAt_9 : decode prog_4_method_4_code 9 = .ok (.lreturn, 1) := by decide +kernel
theorem d_T_piece_0 : decode prog_4_method_5_code 0 = .ok (.lload_n 0, 1) := by decide +kernel
theorem d_T_piece_1 : decode prog_4_method_5_code 1 = .ok (.iconst 4, 1) := by decide +kernel
theorem d_T_piece_2 : decode prog_4_method_5_code 2 = .ok (.iload_n 2, 1) := by decide +kernel
theorem d_T_piece_3 : decode prog_4_method_5_code 3 = .ok (.imul, 1) := by decide +kernel
theorem d_T_piece_4 : decode prog_4_method_5_code 4 = .ok (.lushr, 1) := by decide +kernel
theorem d_T_piece_5 : decode prog_4_method_5_code 5 = .ok (.iload_n 3, 1) := by decide +kernel
theorem d_T_piece_6 : decode prog_4_method_5_code 6 = .ok (.iload_n 2, 1) := by decide +kernel
theorem d_T_piece_7 : decode prog_4_method_5_code 7 = .ok (.isub, 1) := by decide +kernel
theorem d_T_piece_8 : decode prog_4_method_5_code 8 = .ok (.invokestatic 13, 3) := by decide +kernel
theorem d_T_piece_11 : decode prog_4_method_5_code 11 = .ok (.lreturn, 1) := by decide +kernel
theorem d_T_join_0 : decode prog_4_method_6_code 0 = .ok (.lload_n 0, 1) := by decide +kernel
theorem d_T_join_1 : decode prog_4_method_6_code 1 = .ok (.ldc2_w 17, 3) := by decide +kernel
theorem d_T_join_4 : decode prog_4_method_6_code 4 = .ok (.lcmp, 1) := by decide +kernel
theorem d_T_join_5 : decode prog_4_method_6_code 5 = .ok (.ifCond .eq 11, 3) := by decide +kernel
theorem d_T_join_8 : decode prog_4_method_6_code 8 = .ok (.lload_n 2, 1) := by decide +kernel
theorem d_T_join_9 : decode prog_4_method_6_code 9 = .ok (.ldc2_w 17, 3) := by decide +kernel
theorem d_T_join_12 : decode prog_4_method_6_code 12 = .ok (.lcmp, 1) := by decide +kernel
theorem d_T_join_13 : decode prog_4_method_6_code 13 = .ok (.ifCond .ne 7, 3) := by decide +kernel
theorem d_T_join_16 : decode prog_4_method_6_code 16 = .ok (.ldc2_w 17, 3) := by decide +kernel
theorem d_T_join_19 : decode prog_4_method_6_code 19 = .ok (.lreturn, 1) := by decide +kernel
theorem d_T_join_20 : decode prog_4_method_6_code 20 = .ok (.lload_n 0, 1) := by decide +kernel
theorem d_T_join_21 : decode prog_4_method_6_code 21 = .ok (.invokestatic 19, 3) := by decide +kernel
theorem d_T_join_24 : decode prog_4_method_6_code 24 = .ok (.istore 4, 2) := by decide +kernel
theorem d_T_join_26 : decode prog_4_method_6_code 26 = .ok (.iload 4, 2) := by decide +kernel
theorem d_T_join_28 : decode prog_4_method_6_code 28 = .ok (.lload_n 2, 1) := by decide +kernel
theorem d_T_join_29 : decode prog_4_method_6_code 29 = .ok (.invokestatic 19, 3) := by decide +kernel
theorem d_T_join_32 : decode prog_4_method_6_code 32 = .ok (.iadd, 1) := by decide +kernel
theorem d_T_join_33 : decode prog_4_method_6_code 33 = .ok (.istore 5, 2) := by decide +kernel
theorem d_T_join_35 : decode prog_4_method_6_code 35 = .ok (.iload 5, 2) := by decide +kernel
theorem d_T_join_37 : decode prog_4_method_6_code 37 = .ok (.bipush 8, 2) := by decide +kernel
theorem d_T_join_39 : decode prog_4_method_6_code 39 = .ok (.if_icmp .le 7, 3) := by decide +kernel
theorem d_T_join_42 : decode prog_4_method_6_code 42 = .ok (.ldc2_w 17, 3) := by decide +kernel
theorem d_T_join_45 : decode prog_4_method_6_code 45 = .ok (.lreturn, 1) := by decide +kernel
theorem d_T_join_46 : decode prog_4_method_6_code 46 = .ok (.lload_n 2, 1) := by decide +kernel
theorem d_T_join_47 : decode prog_4_method_6_code 47 = .ok (.ldc2_w 23, 3) := by decide +kernel
theorem d_T_join_50 : decode prog_4_method_6_code 50 = .ok (.land, 1) := by decide +kernel
theorem d_T_join_51 : decode prog_4_method_6_code 51 = .ok (.iconst 4, 1) := by decide +kernel
theorem d_T_join_52 : decode prog_4_method_6_code 52 = .ok (.iload 4, 2) := by decide +kernel
theorem d_T_join_54 : decode prog_4_method_6_code 54 = .ok (.imul, 1) := by decide +kernel
theorem d_T_join_55 : decode prog_4_method_6_code 55 = .ok (.lshl, 1) := by decide +kernel
theorem d_T_join_56 : decode prog_4_method_6_code 56 = .ok (.lstore 6, 2) := by decide +kernel
theorem d_T_join_58 : decode prog_4_method_6_code 58 = .ok (.lload_n 0, 1) := by decide +kernel
theorem d_T_join_59 : decode prog_4_method_6_code 59 = .ok (.ldc2_w 23, 3) := by decide +kernel
theorem d_T_join_62 : decode prog_4_method_6_code 62 = .ok (.land, 1) := by decide +kernel
theorem d_T_join_63 : decode prog_4_method_6_code 63 = .ok (.lload 6, 2) := by decide +kernel
theorem d_T_join_65 : decode prog_4_method_6_code 65 = .ok (.lor, 1) := by decide +kernel
theorem d_T_join_66 : decode prog_4_method_6_code 66 = .ok (.iload 5, 2) := by decide +kernel
theorem d_T_join_68 : decode prog_4_method_6_code 68 = .ok (.invokestatic 13, 3) := by decide +kernel
theorem d_T_join_71 : decode prog_4_method_6_code 71 = .ok (.lreturn, 1) := by decide +kernel
theorem d_J_bitCount_0 : decode prog_8_method_50_code 0 = .ok (.lload_n 0, 1) := by decide +kernel
theorem d_J_bitCount_1 : decode prog_8_method_50_code 1 = .ok (.lload_n 0, 1) := by decide +kernel
theorem d_J_bitCount_2 : decode prog_8_method_50_code 2 = .ok (.iconst 1, 1) := by decide +kernel
theorem d_J_bitCount_3 : decode prog_8_method_50_code 3 = .ok (.lushr, 1) := by decide +kernel
theorem d_J_bitCount_4 : decode prog_8_method_50_code 4 = .ok (.ldc2_w 314, 3) := by decide +kernel
theorem d_J_bitCount_7 : decode prog_8_method_50_code 7 = .ok (.land, 1) := by decide +kernel
theorem d_J_bitCount_8 : decode prog_8_method_50_code 8 = .ok (.lsub, 1) := by decide +kernel
theorem d_J_bitCount_9 : decode prog_8_method_50_code 9 = .ok (.lstore_n 0, 1) := by decide +kernel
theorem d_J_bitCount_10 : decode prog_8_method_50_code 10 = .ok (.lload_n 0, 1) := by decide +kernel
theorem d_J_bitCount_11 : decode prog_8_method_50_code 11 = .ok (.ldc2_w 316, 3) := by decide +kernel
theorem d_J_bitCount_14 : decode prog_8_method_50_code 14 = .ok (.land, 1) := by decide +kernel
theorem d_J_bitCount_15 : decode prog_8_method_50_code 15 = .ok (.lload_n 0, 1) := by decide +kernel
theorem d_J_bitCount_16 : decode prog_8_method_50_code 16 = .ok (.iconst 2, 1) := by decide +kernel
theorem d_J_bitCount_17 : decode prog_8_method_50_code 17 = .ok (.lushr, 1) := by decide +kernel
theorem d_J_bitCount_18 : decode prog_8_method_50_code 18 = .ok (.ldc2_w 316, 3) := by decide +kernel
theorem d_J_bitCount_21 : decode prog_8_method_50_code 21 = .ok (.land, 1) := by decide +kernel
theorem d_J_bitCount_22 : decode prog_8_method_50_code 22 = .ok (.ladd, 1) := by decide +kernel
theorem d_J_bitCount_23 : decode prog_8_method_50_code 23 = .ok (.lstore_n 0, 1) := by decide +kernel
theorem d_J_bitCount_24 : decode prog_8_method_50_code 24 = .ok (.lload_n 0, 1) := by decide +kernel
theorem d_J_bitCount_25 : decode prog_8_method_50_code 25 = .ok (.lload_n 0, 1) := by decide +kernel
theorem d_J_bitCount_26 : decode prog_8_method_50_code 26 = .ok (.iconst 4, 1) := by decide +kernel
theorem d_J_bitCount_27 : decode prog_8_method_50_code 27 = .ok (.lushr, 1) := by decide +kernel
theorem d_J_bitCount_28 : decode prog_8_method_50_code 28 = .ok (.ladd, 1) := by decide +kernel
theorem d_J_bitCount_29 : decode prog_8_method_50_code 29 = .ok (.ldc2_w 318, 3) := by decide +kernel
theorem d_J_bitCount_32 : decode prog_8_method_50_code 32 = .ok (.land, 1) := by decide +kernel
theorem d_J_bitCount_33 : decode prog_8_method_50_code 33 = .ok (.lstore_n 0, 1) := by decide +kernel
theorem d_J_bitCount_34 : decode prog_8_method_50_code 34 = .ok (.lload_n 0, 1) := by decide +kernel
theorem d_J_bitCount_35 : decode prog_8_method_50_code 35 = .ok (.lload_n 0, 1) := by decide +kernel
theorem d_J_bitCount_36 : decode prog_8_method_50_code 36 = .ok (.bipush 8, 2) := by decide +kernel
theorem d_J_bitCount_38 : decode prog_8_method_50_code 38 = .ok (.lushr, 1) := by decide +kernel
theorem d_J_bitCount_39 : decode prog_8_method_50_code 39 = .ok (.ladd, 1) := by decide +kernel
theorem d_J_bitCount_40 : decode prog_8_method_50_code 40 = .ok (.lstore_n 0, 1) := by decide +kernel
theorem d_J_bitCount_41 : decode prog_8_method_50_code 41 = .ok (.lload_n 0, 1) := by decide +kernel
theorem d_J_bitCount_42 : decode prog_8_method_50_code 42 = .ok (.lload_n 0, 1) := by decide +kernel
theorem d_J_bitCount_43 : decode prog_8_method_50_code 43 = .ok (.bipush 16, 2) := by decide +kernel
theorem d_J_bitCount_45 : decode prog_8_method_50_code 45 = .ok (.lushr, 1) := by decide +kernel
theorem d_J_bitCount_46 : decode prog_8_method_50_code 46 = .ok (.ladd, 1) := by decide +kernel
theorem d_J_bitCount_47 : decode prog_8_method_50_code 47 = .ok (.lstore_n 0, 1) := by decide +kernel
theorem d_J_bitCount_48 : decode prog_8_method_50_code 48 = .ok (.lload_n 0, 1) := by decide +kernel
theorem d_J_bitCount_49 : decode prog_8_method_50_code 49 = .ok (.lload_n 0, 1) := by decide +kernel
theorem d_J_bitCount_50 : decode prog_8_method_50_code 50 = .ok (.bipush 32, 2) := by decide +kernel
theorem d_J_bitCount_52 : decode prog_8_method_50_code 52 = .ok (.lushr, 1) := by decide +kernel
theorem d_J_bitCount_53 : decode prog_8_method_50_code 53 = .ok (.ladd, 1) := by decide +kernel
theorem d_J_bitCount_54 : decode prog_8_method_50_code 54 = .ok (.lstore_n 0, 1) := by decide +kernel
theorem d_J_bitCount_55 : decode prog_8_method_50_code 55 = .ok (.lload_n 0, 1) := by decide +kernel
theorem d_J_bitCount_56 : decode prog_8_method_50_code 56 = .ok (.l2i, 1) := by decide +kernel
theorem d_J_bitCount_57 : decode prog_8_method_50_code 57 = .ok (.bipush 127, 2) := by decide +kernel
theorem d_J_bitCount_59 : decode prog_8_method_50_code 59 = .ok (.iand, 1) := by decide +kernel
theorem d_J_bitCount_60 : decode prog_8_method_50_code 60 = .ok (.ireturn, 1) := by decide +kernel
theorem d_M_init_0 : decode prog_7_method_1_code 0 = .ok (.aload_n 0, 1) := by decide +kernel
theorem d_M_init_1 : decode prog_7_method_1_code 1 = .ok (.invokespecial 1, 3) := by decide +kernel
theorem d_M_init_4 : decode prog_7_method_1_code 4 = .ok (.aload_n 0, 1) := by decide +kernel
theorem d_M_init_5 : decode prog_7_method_1_code 5 = .ok (.sipush 160, 3) := by decide +kernel
theorem d_M_init_8 : decode prog_7_method_1_code 8 = .ok (.newarray .long, 2) := by decide +kernel
theorem d_M_init_10 : decode prog_7_method_1_code 10 = .ok (.putfield 7, 3) := by decide +kernel
theorem d_M_init_13 : decode prog_7_method_1_code 13 = .ok (.aload_n 0, 1) := by decide +kernel
theorem d_M_init_14 : decode prog_7_method_1_code 14 = .ok (.bipush 40, 2) := by decide +kernel
theorem d_M_init_16 : decode prog_7_method_1_code 16 = .ok (.newarray .int, 2) := by decide +kernel
theorem d_M_init_18 : decode prog_7_method_1_code 18 = .ok (.putfield 13, 3) := by decide +kernel
theorem d_M_init_21 : decode prog_7_method_1_code 21 = .ok (.aload_n 0, 1) := by decide +kernel
theorem d_M_init_22 : decode prog_7_method_1_code 22 = .ok (.bipush 40, 2) := by decide +kernel
theorem d_M_init_24 : decode prog_7_method_1_code 24 = .ok (.newarray .int, 2) := by decide +kernel
theorem d_M_init_26 : decode prog_7_method_1_code 26 = .ok (.putfield 17, 3) := by decide +kernel
theorem d_M_init_29 : decode prog_7_method_1_code 29 = .ok (.aload_n 0, 1) := by decide +kernel
theorem d_M_init_30 : decode prog_7_method_1_code 30 = .ok (.iconst 2, 1) := by decide +kernel
theorem d_M_init_31 : decode prog_7_method_1_code 31 = .ok (.newarray .long, 2) := by decide +kernel
theorem d_M_init_33 : decode prog_7_method_1_code 33 = .ok (.putfield 20, 3) := by decide +kernel
theorem d_M_init_36 : decode prog_7_method_1_code 36 = .ok (.aload_n 0, 1) := by decide +kernel
theorem d_M_init_37 : decode prog_7_method_1_code 37 = .ok (.bipush 8, 2) := by decide +kernel
theorem d_M_init_39 : decode prog_7_method_1_code 39 = .ok (.newarray .int, 2) := by decide +kernel
theorem d_M_init_41 : decode prog_7_method_1_code 41 = .ok (.putfield 23, 3) := by decide +kernel
theorem d_M_init_44 : decode prog_7_method_1_code 44 = .ok (.aload_n 0, 1) := by decide +kernel
theorem d_M_init_45 : decode prog_7_method_1_code 45 = .ok (.iconst 2, 1) := by decide +kernel
theorem d_M_init_46 : decode prog_7_method_1_code 46 = .ok (.newarray .int, 2) := by decide +kernel
theorem d_M_init_48 : decode prog_7_method_1_code 48 = .ok (.putfield 26, 3) := by decide +kernel
theorem d_M_init_51 : decode prog_7_method_1_code 51 = .ok (.aload_n 0, 1) := by decide +kernel
theorem d_M_init_52 : decode prog_7_method_1_code 52 = .ok (.bipush 8, 2) := by decide +kernel
theorem d_M_init_54 : decode prog_7_method_1_code 54 = .ok (.newarray .long, 2) := by decide +kernel
theorem d_M_init_56 : decode prog_7_method_1_code 56 = .ok (.putfield 29, 3) := by decide +kernel
theorem d_M_init_59 : decode prog_7_method_1_code 59 = .ok (.aload_n 0, 1) := by decide +kernel
theorem d_M_init_60 : decode prog_7_method_1_code 60 = .ok (.bipush 8, 2) := by decide +kernel
theorem d_M_init_62 : decode prog_7_method_1_code 62 = .ok (.newarray .long, 2) := by decide +kernel
theorem d_M_init_64 : decode prog_7_method_1_code 64 = .ok (.putfield 32, 3) := by decide +kernel
theorem d_M_init_67 : decode prog_7_method_1_code 67 = .ok (.aload_n 0, 1) := by decide +kernel
theorem d_M_init_68 : decode prog_7_method_1_code 68 = .ok (.iconst 4, 1) := by decide +kernel
theorem d_M_init_69 : decode prog_7_method_1_code 69 = .ok (.newarray .long, 2) := by decide +kernel
theorem d_M_init_71 : decode prog_7_method_1_code 71 = .ok (.putfield 35, 3) := by decide +kernel
theorem d_M_init_74 : decode prog_7_method_1_code 74 = .ok (.aload_n 0, 1) := by decide +kernel
theorem d_M_init_75 : decode prog_7_method_1_code 75 = .ok (.iconst 4, 1) := by decide +kernel
theorem d_M_init_76 : decode prog_7_method_1_code 76 = .ok (.newarray .long, 2) := by decide +kernel
theorem d_M_init_78 : decode prog_7_method_1_code 78 = .ok (.putfield 38, 3) := by decide +kernel
theorem d_M_init_81 : decode prog_7_method_1_code 81 = .ok (.aload_n 0, 1) := by decide +kernel
theorem d_M_init_82 : decode prog_7_method_1_code 82 = .ok (.iconst 4, 1) := by decide +kernel
theorem d_M_init_83 : decode prog_7_method_1_code 83 = .ok (.newarray .long, 2) := by decide +kernel
theorem d_M_init_85 : decode prog_7_method_1_code 85 = .ok (.putfield 41, 3) := by decide +kernel
theorem d_M_init_88 : decode prog_7_method_1_code 88 = .ok (.aload_n 0, 1) := by decide +kernel
theorem d_M_init_89 : decode prog_7_method_1_code 89 = .ok (.iconst 4, 1) := by decide +kernel
theorem d_M_init_90 : decode prog_7_method_1_code 90 = .ok (.newarray .long, 2) := by decide +kernel
theorem d_M_init_92 : decode prog_7_method_1_code 92 = .ok (.putfield 44, 3) := by decide +kernel
theorem d_M_init_95 : decode prog_7_method_1_code 95 = .ok (.aload_n 0, 1) := by decide +kernel
theorem d_M_init_96 : decode prog_7_method_1_code 96 = .ok (.bipush 8, 2) := by decide +kernel
theorem d_M_init_98 : decode prog_7_method_1_code 98 = .ok (.newarray .int, 2) := by decide +kernel
theorem d_M_init_100 : decode prog_7_method_1_code 100 = .ok (.putfield 47, 3) := by decide +kernel
theorem d_M_init_103 : decode prog_7_method_1_code 103 = .ok (.aload_n 0, 1) := by decide +kernel
theorem d_M_init_104 : decode prog_7_method_1_code 104 = .ok (.bipush 8, 2) := by decide +kernel
theorem d_M_init_106 : decode prog_7_method_1_code 106 = .ok (.newarray .int, 2) := by decide +kernel
theorem d_M_init_108 : decode prog_7_method_1_code 108 = .ok (.putfield 50, 3) := by decide +kernel
theorem d_M_init_111 : decode prog_7_method_1_code 111 = .ok (.aload_n 0, 1) := by decide +kernel
theorem d_M_init_112 : decode prog_7_method_1_code 112 = .ok (.bipush 81, 2) := by decide +kernel
theorem d_M_init_114 : decode prog_7_method_1_code 114 = .ok (.newarray .int, 2) := by decide +kernel
theorem d_M_init_116 : decode prog_7_method_1_code 116 = .ok (.putfield 53, 3) := by decide +kernel
theorem d_M_init_119 : decode prog_7_method_1_code 119 = .ok (.aload_n 0, 1) := by decide +kernel
theorem d_M_init_120 : decode prog_7_method_1_code 120 = .ok (.bipush 24, 2) := by decide +kernel
theorem d_M_init_122 : decode prog_7_method_1_code 122 = .ok (.newarray .int, 2) := by decide +kernel
theorem d_M_init_124 : decode prog_7_method_1_code 124 = .ok (.putfield 56, 3) := by decide +kernel
theorem d_M_init_127 : decode prog_7_method_1_code 127 = .ok (.aload_n 0, 1) := by decide +kernel
theorem d_M_init_128 : decode prog_7_method_1_code 128 = .ok (.sipush 160, 3) := by decide +kernel
theorem d_M_init_131 : decode prog_7_method_1_code 131 = .ok (.newarray .long, 2) := by decide +kernel
theorem d_M_init_133 : decode prog_7_method_1_code 133 = .ok (.putfield 59, 3) := by decide +kernel
theorem d_M_init_136 : decode prog_7_method_1_code 136 = .ok (.iconst 0, 1) := by decide +kernel
theorem d_M_init_137 : decode prog_7_method_1_code 137 = .ok (.istore_n 1, 1) := by decide +kernel
theorem d_M_init_138 : decode prog_7_method_1_code 138 = .ok (.iload_n 1, 1) := by decide +kernel
theorem d_M_init_139 : decode prog_7_method_1_code 139 = .ok (.bipush 8, 2) := by decide +kernel
theorem d_M_init_141 : decode prog_7_method_1_code 141 = .ok (.if_icmp .ge 35, 3) := by decide +kernel
theorem d_M_init_144 : decode prog_7_method_1_code 144 = .ok (.aload_n 0, 1) := by decide +kernel
theorem d_M_init_145 : decode prog_7_method_1_code 145 = .ok (.getfield 23, 3) := by decide +kernel
theorem d_M_init_148 : decode prog_7_method_1_code 148 = .ok (.iload_n 1, 1) := by decide +kernel
theorem d_M_init_149 : decode prog_7_method_1_code 149 = .ok (.bipush (-2), 2) := by decide +kernel
theorem d_M_init_151 : decode prog_7_method_1_code 151 = .ok (.iastore, 1) := by decide +kernel
theorem d_M_init_152 : decode prog_7_method_1_code 152 = .ok (.aload_n 0, 1) := by decide +kernel
theorem d_M_init_153 : decode prog_7_method_1_code 153 = .ok (.getfield 29, 3) := by decide +kernel
theorem d_M_init_156 : decode prog_7_method_1_code 156 = .ok (.iload_n 1, 1) := by decide +kernel
theorem d_M_init_157 : decode prog_7_method_1_code 157 = .ok (.ldc2_w 62, 3) := by decide +kernel
theorem d_M_init_160 : decode prog_7_method_1_code 160 = .ok (.lastore, 1) := by decide +kernel
theorem d_M_init_161 : decode prog_7_method_1_code 161 = .ok (.aload_n 0, 1) := by decide +kernel
theorem d_M_init_162 : decode prog_7_method_1_code 162 = .ok (.getfield 32, 3) := by decide +kernel
theorem d_M_init_165 : decode prog_7_method_1_code 165 = .ok (.iload_n 1, 1) := by decide +kernel
theorem d_M_init_166 : decode prog_7_method_1_code 166 = .ok (.ldc2_w 62, 3) := by decide +kernel
theorem d_M_init_169 : decode prog_7_method_1_code 169 = .ok (.lastore, 1) := by decide +kernel
theorem d_M_init_170 : decode prog_7_method_1_code 170 = .ok (.iinc 1 1, 3) := by decide +kernel
theorem d_M_init_173 : decode prog_7_method_1_code 173 = .ok (.goto (-35), 3) := by decide +kernel
theorem d_M_init_176 : decode prog_7_method_1_code 176 = .ok (.return_, 1) := by decide +kernel
end
section
/-! Decode rows. (Printed by gen_names.py.) -/
theorem d_M_write_0 : decode prog_7_method_22_code 0 = .ok (.iload_n 1, 1) := by decide +kernel
theorem d_M_write_1 : decode prog_7_method_22_code 1 = .ok (.iconst 2, 1) := by decide +kernel
theorem d_M_write_2 : decode prog_7_method_22_code 2 = .ok (.invokestatic 123, 3) := by decide +kernel
theorem d_M_write_5 : decode prog_7_method_22_code 5 = .ok (.ifCond .ne 21, 3) := by decide +kernel
theorem d_M_write_8 : decode prog_7_method_22_code 8 = .ok (.iload_n 2, 1) := by decide +kernel
theorem d_M_write_9 : decode prog_7_method_22_code 9 = .ok (.iconst 4, 1) := by decide +kernel
theorem d_M_write_10 : decode prog_7_method_22_code 10 = .ok (.invokestatic 123, 3) := by decide +kernel
theorem d_M_write_13 : decode prog_7_method_22_code 13 = .ok (.ifCond .ne 13, 3) := by decide +kernel
theorem d_M_write_16 : decode prog_7_method_22_code 16 = .ok (.iload 5, 2) := by decide +kernel
theorem d_M_write_18 : decode prog_7_method_22_code 18 = .ok (.bipush 9, 2) := by decide +kernel
theorem d_M_write_20 : decode prog_7_method_22_code 20 = .ok (.invokestatic 123, 3) := by decide +kernel
theorem d_M_write_23 : decode prog_7_method_22_code 23 = .ok (.ifCond .eq 5, 3) := by decide +kernel
theorem d_M_write_26 : decode prog_7_method_22_code 26 = .ok (.iconst 0, 1) := by decide +kernel
theorem d_M_write_27 : decode prog_7_method_22_code 27 = .ok (.ireturn, 1) := by decide +kernel
theorem d_M_write_28 : decode prog_7_method_22_code 28 = .ok (.iload 5, 2) := by decide +kernel
theorem d_M_write_30 : decode prog_7_method_22_code 30 = .ok (.i2l, 1) := by decide +kernel
theorem d_M_write_31 : decode prog_7_method_22_code 31 = .ok (.bipush 32, 2) := by decide +kernel
theorem d_M_write_33 : decode prog_7_method_22_code 33 = .ok (.lshl, 1) := by decide +kernel
theorem d_M_write_34 : decode prog_7_method_22_code 34 = .ok (.lstore 6, 2) := by decide +kernel
theorem d_M_write_36 : decode prog_7_method_22_code 36 = .ok (.iconst 0, 1) := by decide +kernel
theorem d_M_write_37 : decode prog_7_method_22_code 37 = .ok (.istore 8, 2) := by decide +kernel
theorem d_M_write_39 : decode prog_7_method_22_code 39 = .ok (.iload 8, 2) := by decide +kernel
theorem d_M_write_41 : decode prog_7_method_22_code 41 = .ok (.iload 5, 2) := by decide +kernel
theorem d_M_write_43 : decode prog_7_method_22_code 43 = .ok (.if_icmp .ge 29, 3) := by decide +kernel
theorem d_M_write_46 : decode prog_7_method_22_code 46 = .ok (.lload 6, 2) := by decide +kernel
theorem d_M_write_48 : decode prog_7_method_22_code 48 = .ok (.lload_n 3, 1) := by decide +kernel
theorem d_M_write_49 : decode prog_7_method_22_code 49 = .ok (.iconst 4, 1) := by decide +kernel
theorem d_M_write_50 : decode prog_7_method_22_code 50 = .ok (.iload 8, 2) := by decide +kernel
theorem d_M_write_52 : decode prog_7_method_22_code 52 = .ok (.imul, 1) := by decide +kernel
theorem d_M_write_53 : decode prog_7_method_22_code 53 = .ok (.lshr, 1) := by decide +kernel
theorem d_M_write_54 : decode prog_7_method_22_code 54 = .ok (.ldc2_w 64, 3) := by decide +kernel
theorem d_M_write_57 : decode prog_7_method_22_code 57 = .ok (.land, 1) := by decide +kernel
theorem d_M_write_58 : decode prog_7_method_22_code 58 = .ok (.iconst 4, 1) := by decide +kernel
theorem d_M_write_59 : decode prog_7_method_22_code 59 = .ok (.iload 8, 2) := by decide +kernel
theorem d_M_write_61 : decode prog_7_method_22_code 61 = .ok (.imul, 1) := by decide +kernel
theorem d_M_write_62 : decode prog_7_method_22_code 62 = .ok (.lshl, 1) := by decide +kernel
theorem d_M_write_63 : decode prog_7_method_22_code 63 = .ok (.lor, 1) := by decide +kernel
theorem d_M_write_64 : decode prog_7_method_22_code 64 = .ok (.lstore 6, 2) := by decide +kernel
theorem d_M_write_66 : decode prog_7_method_22_code 66 = .ok (.iinc 8 1, 3) := by decide +kernel
theorem d_M_write_69 : decode prog_7_method_22_code 69 = .ok (.goto (-30), 3) := by decide +kernel
theorem d_M_write_72 : decode prog_7_method_22_code 72 = .ok (.aload_n 0, 1) := by decide +kernel
theorem d_M_write_73 : decode prog_7_method_22_code 73 = .ok (.getfield 29, 3) := by decide +kernel
theorem d_M_write_76 : decode prog_7_method_22_code 76 = .ok (.iconst 4, 1) := by decide +kernel
theorem d_M_write_77 : decode prog_7_method_22_code 77 = .ok (.iload_n 1, 1) := by decide +kernel
theorem d_M_write_78 : decode prog_7_method_22_code 78 = .ok (.imul, 1) := by decide +kernel
theorem d_M_write_79 : decode prog_7_method_22_code 79 = .ok (.iload_n 2, 1) := by decide +kernel
theorem d_M_write_80 : decode prog_7_method_22_code 80 = .ok (.iadd, 1) := by decide +kernel
theorem d_M_write_81 : decode prog_7_method_22_code 81 = .ok (.lload 6, 2) := by decide +kernel
theorem d_M_write_83 : decode prog_7_method_22_code 83 = .ok (.lastore, 1) := by decide +kernel
theorem d_M_write_84 : decode prog_7_method_22_code 84 = .ok (.iconst 1, 1) := by decide +kernel
theorem d_M_write_85 : decode prog_7_method_22_code 85 = .ok (.ireturn, 1) := by decide +kernel
theorem d_M_out_0 : decode prog_7_method_2_code 0 = .ok (.iload_n 0, 1) := by decide +kernel
theorem d_M_out_1 : decode prog_7_method_2_code 1 = .ok (.ifCond .lt 8, 3) := by decide +kernel
theorem d_M_out_4 : decode prog_7_method_2_code 4 = .ok (.iload_n 0, 1) := by decide +kernel
theorem d_M_out_5 : decode prog_7_method_2_code 5 = .ok (.iload_n 1, 1) := by decide +kernel
theorem d_M_out_6 : decode prog_7_method_2_code 6 = .ok (.if_icmp .lt 7, 3) := by decide +kernel
theorem d_M_out_9 : decode prog_7_method_2_code 9 = .ok (.iconst 1, 1) := by decide +kernel
theorem d_M_out_10 : decode prog_7_method_2_code 10 = .ok (.goto 4, 3) := by decide +kernel
theorem d_M_out_13 : decode prog_7_method_2_code 13 = .ok (.iconst 0, 1) := by decide +kernel
theorem d_M_out_14 : decode prog_7_method_2_code 14 = .ok (.ireturn, 1) := by decide +kernel
theorem d_M_remove_0 : decode prog_7_method_23_code 0 = .ok (.iload_n 1, 1) := by decide +kernel
theorem d_M_remove_1 : decode prog_7_method_23_code 1 = .ok (.iconst 2, 1) := by decide +kernel
theorem d_M_remove_2 : decode prog_7_method_23_code 2 = .ok (.invokestatic 123, 3) := by decide +kernel
theorem d_M_remove_5 : decode prog_7_method_23_code 5 = .ok (.ifCond .ne 11, 3) := by decide +kernel
theorem d_M_remove_8 : decode prog_7_method_23_code 8 = .ok (.iload_n 2, 1) := by decide +kernel
theorem d_M_remove_9 : decode prog_7_method_23_code 9 = .ok (.iconst 4, 1) := by decide +kernel
theorem d_M_remove_10 : decode prog_7_method_23_code 10 = .ok (.invokestatic 123, 3) := by decide +kernel
theorem d_M_remove_13 : decode prog_7_method_23_code 13 = .ok (.ifCond .eq 5, 3) := by decide +kernel
theorem d_M_remove_16 : decode prog_7_method_23_code 16 = .ok (.iconst 0, 1) := by decide +kernel
theorem d_M_remove_17 : decode prog_7_method_23_code 17 = .ok (.ireturn, 1) := by decide +kernel
theorem d_M_remove_18 : decode prog_7_method_23_code 18 = .ok (.aload_n 0, 1) := by decide +kernel
theorem d_M_remove_19 : decode prog_7_method_23_code 19 = .ok (.getfield 29, 3) := by decide +kernel
theorem d_M_remove_22 : decode prog_7_method_23_code 22 = .ok (.iconst 4, 1) := by decide +kernel
theorem d_M_remove_23 : decode prog_7_method_23_code 23 = .ok (.iload_n 1, 1) := by decide +kernel
theorem d_M_remove_24 : decode prog_7_method_23_code 24 = .ok (.imul, 1) := by decide +kernel
theorem d_M_remove_25 : decode prog_7_method_23_code 25 = .ok (.iload_n 2, 1) := by decide +kernel
theorem d_M_remove_26 : decode prog_7_method_23_code 26 = .ok (.iadd, 1) := by decide +kernel
theorem d_M_remove_27 : decode prog_7_method_23_code 27 = .ok (.ldc2_w 62, 3) := by decide +kernel
theorem d_M_remove_30 : decode prog_7_method_23_code 30 = .ok (.lastore, 1) := by decide +kernel
theorem d_M_remove_31 : decode prog_7_method_23_code 31 = .ok (.iconst 1, 1) := by decide +kernel
theorem d_M_remove_32 : decode prog_7_method_23_code 32 = .ok (.ireturn, 1) := by decide +kernel
theorem d_M_stage_0 : decode prog_7_method_24_code 0 = .ok (.iload_n 1, 1) := by decide +kernel
theorem d_M_stage_1 : decode prog_7_method_24_code 1 = .ok (.iconst 2, 1) := by decide +kernel
theorem d_M_stage_2 : decode prog_7_method_24_code 2 = .ok (.invokestatic 123, 3) := by decide +kernel
theorem d_M_stage_5 : decode prog_7_method_24_code 5 = .ok (.ifCond .ne 11, 3) := by decide +kernel
theorem d_M_stage_8 : decode prog_7_method_24_code 8 = .ok (.iload_n 2, 1) := by decide +kernel
theorem d_M_stage_9 : decode prog_7_method_24_code 9 = .ok (.iconst 4, 1) := by decide +kernel
theorem d_M_stage_10 : decode prog_7_method_24_code 10 = .ok (.invokestatic 123, 3) := by decide +kernel
theorem d_M_stage_13 : decode prog_7_method_24_code 13 = .ok (.ifCond .eq 5, 3) := by decide +kernel
theorem d_M_stage_16 : decode prog_7_method_24_code 16 = .ok (.iconst 0, 1) := by decide +kernel
theorem d_M_stage_17 : decode prog_7_method_24_code 17 = .ok (.ireturn, 1) := by decide +kernel
theorem d_M_stage_18 : decode prog_7_method_24_code 18 = .ok (.aload_n 0, 1) := by decide +kernel
theorem d_M_stage_19 : decode prog_7_method_24_code 19 = .ok (.getfield 32, 3) := by decide +kernel
theorem d_M_stage_22 : decode prog_7_method_24_code 22 = .ok (.iconst 4, 1) := by decide +kernel
theorem d_M_stage_23 : decode prog_7_method_24_code 23 = .ok (.iload_n 1, 1) := by decide +kernel
theorem d_M_stage_24 : decode prog_7_method_24_code 24 = .ok (.imul, 1) := by decide +kernel
theorem d_M_stage_25 : decode prog_7_method_24_code 25 = .ok (.iload_n 2, 1) := by decide +kernel
theorem d_M_stage_26 : decode prog_7_method_24_code 26 = .ok (.iadd, 1) := by decide +kernel
theorem d_M_stage_27 : decode prog_7_method_24_code 27 = .ok (.aload_n 0, 1) := by decide +kernel
theorem d_M_stage_28 : decode prog_7_method_24_code 28 = .ok (.getfield 29, 3) := by decide +kernel
theorem d_M_stage_31 : decode prog_7_method_24_code 31 = .ok (.iconst 4, 1) := by decide +kernel
theorem d_M_stage_32 : decode prog_7_method_24_code 32 = .ok (.iload_n 1, 1) := by decide +kernel
theorem d_M_stage_33 : decode prog_7_method_24_code 33 = .ok (.imul, 1) := by decide +kernel
theorem d_M_stage_34 : decode prog_7_method_24_code 34 = .ok (.iload_n 2, 1) := by decide +kernel
theorem d_M_stage_35 : decode prog_7_method_24_code 35 = .ok (.iadd, 1) := by decide +kernel
theorem d_M_stage_36 : decode prog_7_method_24_code 36 = .ok (.laload, 1) := by decide +kernel
theorem d_M_stage_37 : decode prog_7_method_24_code 37 = .ok (.lastore, 1) := by decide +kernel
theorem d_M_stage_38 : decode prog_7_method_24_code 38 = .ok (.iconst 1, 1) := by decide +kernel
theorem d_M_stage_39 : decode prog_7_method_24_code 39 = .ok (.ireturn, 1) := by decide +kernel
theorem d_M_commit_0 : decode prog_7_method_25_code 0 = .ok (.iload_n 1, 1) := by decide +kernel
theorem d_M_commit_1 : decode prog_7_method_25_code 1 = .ok (.iconst 2, 1) := by decide +kernel
theorem d_M_commit_2 : decode prog_7_method_25_code 2 = .ok (.invokestatic 123, 3) := by decide +kernel
theorem d_M_commit_5 : decode prog_7_method_25_code 5 = .ok (.ifCond .eq 5, 3) := by decide +kernel
theorem d_M_commit_8 : decode prog_7_method_25_code 8 = .ok (.iconst (-1), 1) := by decide +kernel
theorem d_M_commit_9 : decode prog_7_method_25_code 9 = .ok (.ireturn, 1) := by decide +kernel
theorem d_M_commit_10 : decode prog_7_method_25_code 10 = .ok (.aload_n 0, 1) := by decide +kernel
theorem d_M_commit_11 : decode prog_7_method_25_code 11 = .ok (.aload_n 0, 1) := by decide +kernel
theorem d_M_commit_12 : decode prog_7_method_25_code 12 = .ok (.getfield 32, 3) := by decide +kernel
theorem d_M_commit_15 : decode prog_7_method_25_code 15 = .ok (.iload_n 1, 1) := by decide +kernel
theorem d_M_commit_16 : decode prog_7_method_25_code 16 = .ok (.invokevirtual 119, 3) := by decide +kernel
theorem d_M_commit_19 : decode prog_7_method_25_code 19 = .ok (.ifCond .eq 6, 3) := by decide +kernel
theorem d_M_commit_22 : decode prog_7_method_25_code 22 = .ok (.bipush (-4), 2) := by decide +kernel
theorem d_M_commit_24 : decode prog_7_method_25_code 24 = .ok (.ireturn, 1) := by decide +kernel
theorem d_M_commit_25 : decode prog_7_method_25_code 25 = .ok (.aload_n 0, 1) := by decide +kernel
theorem d_M_commit_26 : decode prog_7_method_25_code 26 = .ok (.getfield 104, 3) := by decide +kernel
theorem d_M_commit_29 : decode prog_7_method_25_code 29 = .ok (.bipush 40, 2) := by decide +kernel
theorem d_M_commit_31 : decode prog_7_method_25_code 31 = .ok (.if_icmp .ne 6, 3) := by decide +kernel
theorem d_M_commit_34 : decode prog_7_method_25_code 34 = .ok (.bipush (-6), 2) := by decide +kernel
theorem d_M_commit_36 : decode prog_7_method_25_code 36 = .ok (.ireturn, 1) := by decide +kernel
theorem d_M_commit_37 : decode prog_7_method_25_code 37 = .ok (.aload_n 0, 1) := by decide +kernel
theorem d_M_commit_38 : decode prog_7_method_25_code 38 = .ok (.iload_n 1, 1) := by decide +kernel
theorem d_M_commit_39 : decode prog_7_method_25_code 39 = .ok (.aload_n 0, 1) := by decide +kernel
theorem d_M_commit_40 : decode prog_7_method_25_code 40 = .ok (.iload_n 1, 1) := by decide +kernel
theorem d_M_commit_41 : decode prog_7_method_25_code 41 = .ok (.invokevirtual 111, 3) := by decide +kernel
theorem d_M_commit_44 : decode prog_7_method_25_code 44 = .ok (.bipush (-2), 2) := by decide +kernel
theorem d_M_commit_46 : decode prog_7_method_25_code 46 = .ok (.invokevirtual 126, 3) := by decide +kernel
theorem d_M_commit_49 : decode prog_7_method_25_code 49 = .ok (.istore_n 2, 1) := by decide +kernel
theorem d_M_commit_50 : decode prog_7_method_25_code 50 = .ok (.iconst 0, 1) := by decide +kernel
theorem d_M_commit_51 : decode prog_7_method_25_code 51 = .ok (.istore_n 3, 1) := by decide +kernel
theorem d_M_commit_52 : decode prog_7_method_25_code 52 = .ok (.iload_n 3, 1) := by decide +kernel
theorem d_M_commit_53 : decode prog_7_method_25_code 53 = .ok (.iconst 4, 1) := by decide +kernel
theorem d_M_commit_54 : decode prog_7_method_25_code 54 = .ok (.if_icmp .ge 29, 3) := by decide +kernel
theorem d_M_commit_57 : decode prog_7_method_25_code 57 = .ok (.aload_n 0, 1) := by decide +kernel
theorem d_M_commit_58 : decode prog_7_method_25_code 58 = .ok (.getfield 7, 3) := by decide +kernel
theorem d_M_commit_61 : decode prog_7_method_25_code 61 = .ok (.iconst 4, 1) := by decide +kernel
theorem d_M_commit_62 : decode prog_7_method_25_code 62 = .ok (.iload_n 2, 1) := by decide +kernel
theorem d_M_commit_63 : decode prog_7_method_25_code 63 = .ok (.imul, 1) := by decide +kernel
theorem d_M_commit_64 : decode prog_7_method_25_code 64 = .ok (.iload_n 3, 1) := by decide +kernel
theorem d_M_commit_65 : decode prog_7_method_25_code 65 = .ok (.iadd, 1) := by decide +kernel
theorem d_M_commit_66 : decode prog_7_method_25_code 66 = .ok (.aload_n 0, 1) := by decide +kernel
theorem d_M_commit_67 : decode prog_7_method_25_code 67 = .ok (.getfield 32, 3) := by decide +kernel
theorem d_M_commit_70 : decode prog_7_method_25_code 70 = .ok (.iconst 4, 1) := by decide +kernel
theorem d_M_commit_71 : decode prog_7_method_25_code 71 = .ok (.iload_n 1, 1) := by decide +kernel
theorem d_M_commit_72 : decode prog_7_method_25_code 72 = .ok (.imul, 1) := by decide +kernel
theorem d_M_commit_73 : decode prog_7_method_25_code 73 = .ok (.iload_n 3, 1) := by decide +kernel
theorem d_M_commit_74 : decode prog_7_method_25_code 74 = .ok (.iadd, 1) := by decide +kernel
theorem d_M_commit_75 : decode prog_7_method_25_code 75 = .ok (.laload, 1) := by decide +kernel
theorem d_M_commit_76 : decode prog_7_method_25_code 76 = .ok (.lastore, 1) := by decide +kernel
theorem d_M_commit_77 : decode prog_7_method_25_code 77 = .ok (.iinc 3 1, 3) := by decide +kernel
theorem d_M_commit_80 : decode prog_7_method_25_code 80 = .ok (.goto (-28), 3) := by decide +kernel
theorem d_M_commit_83 : decode prog_7_method_25_code 83 = .ok (.aload_n 0, 1) := by decide +kernel
theorem d_M_commit_84 : decode prog_7_method_25_code 84 = .ok (.getfield 23, 3) := by decide +kernel
theorem d_M_commit_87 : decode prog_7_method_25_code 87 = .ok (.iconst 4, 1) := by decide +kernel
theorem d_M_commit_88 : decode prog_7_method_25_code 88 = .ok (.iload_n 1, 1) := by decide +kernel
theorem d_M_commit_89 : decode prog_7_method_25_code 89 = .ok (.imul, 1) := by decide +kernel
theorem d_M_commit_90 : decode prog_7_method_25_code 90 = .ok (.aload_n 0, 1) := by decide +kernel
theorem d_M_commit_91 : decode prog_7_method_25_code 91 = .ok (.getfield 26, 3) := by decide +kernel
theorem d_M_commit_94 : decode prog_7_method_25_code 94 = .ok (.iload_n 1, 1) := by decide +kernel
theorem d_M_commit_95 : decode prog_7_method_25_code 95 = .ok (.iaload, 1) := by decide +kernel
theorem d_M_commit_96 : decode prog_7_method_25_code 96 = .ok (.iadd, 1) := by decide +kernel
theorem d_M_commit_97 : decode prog_7_method_25_code 97 = .ok (.iload_n 2, 1) := by decide +kernel
theorem d_M_commit_98 : decode prog_7_method_25_code 98 = .ok (.iastore, 1) := by decide +kernel
theorem d_M_commit_99 : decode prog_7_method_25_code 99 = .ok (.iload_n 2, 1) := by decide +kernel
theorem d_M_commit_100 : decode prog_7_method_25_code 100 = .ok (.ireturn, 1) := by decide +kernel
theorem d_M_sameAsHead_0 : decode prog_7_method_17_code 0 = .ok (.iconst 1, 1) := by decide +kernel
theorem d_M_sameAsHead_1 : decode prog_7_method_17_code 1 = .ok (.istore_n 3, 1) := by decide +kernel
theorem d_M_sameAsHead_2 : decode prog_7_method_17_code 2 = .ok (.iconst 0, 1) := by decide +kernel
theorem d_M_sameAsHead_3 : decode prog_7_method_17_code 3 = .ok (.istore 4, 2) := by decide +kernel
theorem d_M_sameAsHead_5 : decode prog_7_method_17_code 5 = .ok (.iload 4, 2) := by decide +kernel
theorem d_M_sameAsHead_7 : decode prog_7_method_17_code 7 = .ok (.iconst 4, 1) := by decide +kernel
theorem d_M_sameAsHead_8 : decode prog_7_method_17_code 8 = .ok (.if_icmp .ge 42, 3) := by decide +kernel
theorem d_M_sameAsHead_11 : decode prog_7_method_17_code 11 = .ok (.iload_n 3, 1) := by decide +kernel
theorem d_M_sameAsHead_12 : decode prog_7_method_17_code 12 = .ok (.ifCond .eq 30, 3) := by decide +kernel
theorem d_M_sameAsHead_15 : decode prog_7_method_17_code 15 = .ok (.aload_n 1, 1) := by decide +kernel
theorem d_M_sameAsHead_16 : decode prog_7_method_17_code 16 = .ok (.iconst 4, 1) := by decide +kernel
theorem d_M_sameAsHead_17 : decode prog_7_method_17_code 17 = .ok (.iload_n 2, 1) := by decide +kernel
theorem d_M_sameAsHead_18 : decode prog_7_method_17_code 18 = .ok (.imul, 1) := by decide +kernel
theorem d_M_sameAsHead_19 : decode prog_7_method_17_code 19 = .ok (.iload 4, 2) := by decide +kernel
theorem d_M_sameAsHead_21 : decode prog_7_method_17_code 21 = .ok (.iadd, 1) := by decide +kernel
theorem d_M_sameAsHead_22 : decode prog_7_method_17_code 22 = .ok (.laload, 1) := by decide +kernel
theorem d_M_sameAsHead_23 : decode prog_7_method_17_code 23 = .ok (.aload_n 0, 1) := by decide +kernel
theorem d_M_sameAsHead_24 : decode prog_7_method_17_code 24 = .ok (.aload_n 0, 1) := by decide +kernel
theorem d_M_sameAsHead_25 : decode prog_7_method_17_code 25 = .ok (.iload_n 2, 1) := by decide +kernel
theorem d_M_sameAsHead_26 : decode prog_7_method_17_code 26 = .ok (.invokevirtual 111, 3) := by decide +kernel
theorem d_M_sameAsHead_29 : decode prog_7_method_17_code 29 = .ok (.iload 4, 2) := by decide +kernel
theorem d_M_sameAsHead_31 : decode prog_7_method_17_code 31 = .ok (.invokevirtual 115, 3) := by decide +kernel
theorem d_M_sameAsHead_34 : decode prog_7_method_17_code 34 = .ok (.lcmp, 1) := by decide +kernel
theorem d_M_sameAsHead_35 : decode prog_7_method_17_code 35 = .ok (.ifCond .ne 7, 3) := by decide +kernel
theorem d_M_sameAsHead_38 : decode prog_7_method_17_code 38 = .ok (.iconst 1, 1) := by decide +kernel
theorem d_M_sameAsHead_39 : decode prog_7_method_17_code 39 = .ok (.goto 4, 3) := by decide +kernel
theorem d_M_sameAsHead_42 : decode prog_7_method_17_code 42 = .ok (.iconst 0, 1) := by decide +kernel
theorem d_M_sameAsHead_43 : decode prog_7_method_17_code 43 = .ok (.istore_n 3, 1) := by decide +kernel
theorem d_M_sameAsHead_44 : decode prog_7_method_17_code 44 = .ok (.iinc 4 1, 3) := by decide +kernel
theorem d_M_sameAsHead_47 : decode prog_7_method_17_code 47 = .ok (.goto (-42), 3) := by decide +kernel
theorem d_M_sameAsHead_50 : decode prog_7_method_17_code 50 = .ok (.iload_n 3, 1) := by decide +kernel
theorem d_M_sameAsHead_51 : decode prog_7_method_17_code 51 = .ok (.ireturn, 1) := by decide +kernel
theorem d_M_head_0 : decode prog_7_method_16_code 0 = .ok (.aload_n 0, 1) := by decide +kernel
theorem d_M_head_1 : decode prog_7_method_16_code 1 = .ok (.getfield 23, 3) := by decide +kernel
theorem d_M_head_4 : decode prog_7_method_16_code 4 = .ok (.iconst 4, 1) := by decide +kernel
theorem d_M_head_5 : decode prog_7_method_16_code 5 = .ok (.iload_n 1, 1) := by decide +kernel
theorem d_M_head_6 : decode prog_7_method_16_code 6 = .ok (.imul, 1) := by decide +kernel
theorem d_M_head_7 : decode prog_7_method_16_code 7 = .ok (.aload_n 0, 1) := by decide +kernel
theorem d_M_head_8 : decode prog_7_method_16_code 8 = .ok (.getfield 26, 3) := by decide +kernel
theorem d_M_head_11 : decode prog_7_method_16_code 11 = .ok (.iload_n 1, 1) := by decide +kernel
theorem d_M_head_12 : decode prog_7_method_16_code 12 = .ok (.iaload, 1) := by decide +kernel
theorem d_M_head_13 : decode prog_7_method_16_code 13 = .ok (.iadd, 1) := by decide +kernel
theorem d_M_head_14 : decode prog_7_method_16_code 14 = .ok (.iaload, 1) := by decide +kernel
theorem d_M_head_15 : decode prog_7_method_16_code 15 = .ok (.ireturn, 1) := by decide +kernel
theorem d_M_textOf_0 : decode prog_7_method_12_code 0 = .ok (.iload_n 1, 1) := by decide +kernel
theorem d_M_textOf_1 : decode prog_7_method_12_code 1 = .ok (.ifCond .ge 9, 3) := by decide +kernel
theorem d_M_textOf_4 : decode prog_7_method_12_code 4 = .ok (.ldc2_w 62, 3) := by decide +kernel
theorem d_M_textOf_7 : decode prog_7_method_12_code 7 = .ok (.goto 13, 3) := by decide +kernel
theorem d_M_textOf_10 : decode prog_7_method_12_code 10 = .ok (.aload_n 0, 1) := by decide +kernel
theorem d_M_textOf_11 : decode prog_7_method_12_code 11 = .ok (.getfield 7, 3) := by decide +kernel
theorem d_M_textOf_14 : decode prog_7_method_12_code 14 = .ok (.iconst 4, 1) := by decide +kernel
theorem d_M_textOf_15 : decode prog_7_method_12_code 15 = .ok (.iload_n 1, 1) := by decide +kernel
theorem d_M_textOf_16 : decode prog_7_method_12_code 16 = .ok (.imul, 1) := by decide +kernel
theorem d_M_textOf_17 : decode prog_7_method_12_code 17 = .ok (.iload_n 2, 1) := by decide +kernel
theorem d_M_textOf_18 : decode prog_7_method_12_code 18 = .ok (.iadd, 1) := by decide +kernel
theorem d_M_textOf_19 : decode prog_7_method_12_code 19 = .ok (.laload, 1) := by decide +kernel
theorem d_M_textOf_20 : decode prog_7_method_12_code 20 = .ok (.lreturn, 1) := by decide +kernel
theorem d_M_make_0 : decode prog_7_method_19_code 0 = .ok (.aload_n 0, 1) := by decide +kernel
theorem d_M_make_1 : decode prog_7_method_19_code 1 = .ok (.getfield 104, 3) := by decide +kernel
theorem d_M_make_4 : decode prog_7_method_19_code 4 = .ok (.istore 4, 2) := by decide +kernel
theorem d_M_make_6 : decode prog_7_method_19_code 6 = .ok (.aload_n 0, 1) := by decide +kernel
theorem d_M_make_7 : decode prog_7_method_19_code 7 = .ok (.getfield 13, 3) := by decide +kernel
theorem d_M_make_10 : decode prog_7_method_19_code 10 = .ok (.iload 4, 2) := by decide +kernel
theorem d_M_make_12 : decode prog_7_method_19_code 12 = .ok (.iload_n 2, 1) := by decide +kernel
theorem d_M_make_13 : decode prog_7_method_19_code 13 = .ok (.iastore, 1) := by decide +kernel
theorem d_M_make_14 : decode prog_7_method_19_code 14 = .ok (.aload_n 0, 1) := by decide +kernel
theorem d_M_make_15 : decode prog_7_method_19_code 15 = .ok (.getfield 17, 3) := by decide +kernel
theorem d_M_make_18 : decode prog_7_method_19_code 18 = .ok (.iload 4, 2) := by decide +kernel
theorem d_M_make_20 : decode prog_7_method_19_code 20 = .ok (.iload_n 3, 1) := by decide +kernel
theorem d_M_make_21 : decode prog_7_method_19_code 21 = .ok (.iastore, 1) := by decide +kernel
theorem d_M_make_22 : decode prog_7_method_19_code 22 = .ok (.aload_n 0, 1) := by decide +kernel
theorem d_M_make_23 : decode prog_7_method_19_code 23 = .ok (.getfield 20, 3) := by decide +kernel
theorem d_M_make_26 : decode prog_7_method_19_code 26 = .ok (.iload_n 1, 1) := by decide +kernel
theorem d_M_make_27 : decode prog_7_method_19_code 27 = .ok (.aload_n 0, 1) := by decide +kernel
theorem d_M_make_28 : decode prog_7_method_19_code 28 = .ok (.getfield 20, 3) := by decide +kernel
theorem d_M_make_31 : decode prog_7_method_19_code 31 = .ok (.iload_n 1, 1) := by decide +kernel
theorem d_M_make_32 : decode prog_7_method_19_code 32 = .ok (.laload, 1) := by decide +kernel
theorem d_M_make_33 : decode prog_7_method_19_code 33 = .ok (.lconst 1, 1) := by decide +kernel
theorem d_M_make_34 : decode prog_7_method_19_code 34 = .ok (.iload 4, 2) := by decide +kernel
theorem d_M_make_36 : decode prog_7_method_19_code 36 = .ok (.lshl, 1) := by decide +kernel
theorem d_M_make_37 : decode prog_7_method_19_code 37 = .ok (.lor, 1) := by decide +kernel
theorem d_M_make_38 : decode prog_7_method_19_code 38 = .ok (.lastore, 1) := by decide +kernel
theorem d_M_make_39 : decode prog_7_method_19_code 39 = .ok (.aload_n 0, 1) := by decide +kernel
theorem d_M_make_40 : decode prog_7_method_19_code 40 = .ok (.dup, 1) := by decide +kernel
theorem d_M_make_41 : decode prog_7_method_19_code 41 = .ok (.getfield 104, 3) := by decide +kernel
theorem d_M_make_44 : decode prog_7_method_19_code 44 = .ok (.iconst 1, 1) := by decide +kernel
theorem d_M_make_45 : decode prog_7_method_19_code 45 = .ok (.iadd, 1) := by decide +kernel
theorem d_M_make_46 : decode prog_7_method_19_code 46 = .ok (.putfield 104, 3) := by decide +kernel
theorem d_M_make_49 : decode prog_7_method_19_code 49 = .ok (.iload 4, 2) := by decide +kernel
theorem d_M_make_51 : decode prog_7_method_19_code 51 = .ok (.ireturn, 1) := by decide +kernel
theorem d_M_branch_0 : decode prog_7_method_27_code 0 = .ok (.iload_n 1, 1) := by decide +kernel
theorem d_M_branch_1 : decode prog_7_method_27_code 1 = .ok (.iconst 2, 1) := by decide +kernel
theorem d_M_branch_2 : decode prog_7_method_27_code 2 = .ok (.invokestatic 123, 3) := by decide +kernel
theorem d_M_branch_5 : decode prog_7_method_27_code 5 = .ok (.ifCond .ne 11, 3) := by decide +kernel
theorem d_M_branch_8 : decode prog_7_method_27_code 8 = .ok (.iload_n 2, 1) := by decide +kernel
theorem d_M_branch_9 : decode prog_7_method_27_code 9 = .ok (.iconst 4, 1) := by decide +kernel
theorem d_M_branch_10 : decode prog_7_method_27_code 10 = .ok (.invokestatic 123, 3) := by decide +kernel
theorem d_M_branch_13 : decode prog_7_method_27_code 13 = .ok (.ifCond .eq 5, 3) := by decide +kernel
theorem d_M_branch_16 : decode prog_7_method_27_code 16 = .ok (.iconst 0, 1) := by decide +kernel
theorem d_M_branch_17 : decode prog_7_method_27_code 17 = .ok (.ireturn, 1) := by decide +kernel
theorem d_M_branch_18 : decode prog_7_method_27_code 18 = .ok (.aload_n 0, 1) := by decide +kernel
theorem d_M_branch_19 : decode prog_7_method_27_code 19 = .ok (.iload_n 1, 1) := by decide +kernel
theorem d_M_branch_20 : decode prog_7_method_27_code 20 = .ok (.iload_n 2, 1) := by decide +kernel
theorem d_M_branch_21 : decode prog_7_method_27_code 21 = .ok (.invokevirtual 130, 3) := by decide +kernel
theorem d_M_branch_24 : decode prog_7_method_27_code 24 = .ok (.ifCond .ne 11, 3) := by decide +kernel
theorem d_M_branch_27 : decode prog_7_method_27_code 27 = .ok (.aload_n 0, 1) := by decide +kernel
theorem d_M_branch_28 : decode prog_7_method_27_code 28 = .ok (.iload_n 1, 1) := by decide +kernel
theorem d_M_branch_29 : decode prog_7_method_27_code 29 = .ok (.invokevirtual 111, 3) := by decide +kernel
theorem d_M_branch_32 : decode prog_7_method_27_code 32 = .ok (.ifCond .ge 5, 3) := by decide +kernel
theorem d_M_branch_35 : decode prog_7_method_27_code 35 = .ok (.iconst 0, 1) := by decide +kernel
theorem d_M_branch_36 : decode prog_7_method_27_code 36 = .ok (.ireturn, 1) := by decide +kernel
theorem d_M_branch_37 : decode prog_7_method_27_code 37 = .ok (.aload_n 0, 1) := by decide +kernel
theorem d_M_branch_38 : decode prog_7_method_27_code 38 = .ok (.getfield 23, 3) := by decide +kernel
theorem d_M_branch_41 : decode prog_7_method_27_code 41 = .ok (.iconst 4, 1) := by decide +kernel
theorem d_M_branch_42 : decode prog_7_method_27_code 42 = .ok (.iload_n 1, 1) := by decide +kernel
theorem d_M_branch_43 : decode prog_7_method_27_code 43 = .ok (.imul, 1) := by decide +kernel
theorem d_M_branch_44 : decode prog_7_method_27_code 44 = .ok (.iload_n 2, 1) := by decide +kernel
theorem d_M_branch_45 : decode prog_7_method_27_code 45 = .ok (.iadd, 1) := by decide +kernel
theorem d_M_branch_46 : decode prog_7_method_27_code 46 = .ok (.aload_n 0, 1) := by decide +kernel
theorem d_M_branch_47 : decode prog_7_method_27_code 47 = .ok (.iload_n 1, 1) := by decide +kernel
theorem d_M_branch_48 : decode prog_7_method_27_code 48 = .ok (.invokevirtual 111, 3) := by decide +kernel
theorem d_M_branch_51 : decode prog_7_method_27_code 51 = .ok (.iastore, 1) := by decide +kernel
theorem d_M_branch_52 : decode prog_7_method_27_code 52 = .ok (.iconst 1, 1) := by decide +kernel
theorem d_M_branch_53 : decode prog_7_method_27_code 53 = .ok (.ireturn, 1) := by decide +kernel
theorem d_M_there_0 : decode prog_7_method_26_code 0 = .ok (.aload_n 0, 1) := by decide +kernel
theorem d_M_there_1 : decode prog_7_method_26_code 1 = .ok (.getfield 23, 3) := by decide +kernel
theorem d_M_there_4 : decode prog_7_method_26_code 4 = .ok (.iconst 4, 1) := by decide +kernel
theorem d_M_there_5 : decode prog_7_method_26_code 5 = .ok (.iload_n 1, 1) := by decide +kernel
theorem d_M_there_6 : decode prog_7_method_26_code 6 = .ok (.imul, 1) := by decide +kernel
theorem d_M_there_7 : decode prog_7_method_26_code 7 = .ok (.iload_n 2, 1) := by decide +kernel
theorem d_M_there_8 : decode prog_7_method_26_code 8 = .ok (.iadd, 1) := by decide +kernel
theorem d_M_there_9 : decode prog_7_method_26_code 9 = .ok (.iaload, 1) := by decide +kernel
theorem d_M_there_10 : decode prog_7_method_26_code 10 = .ok (.ifCond .lt 7, 3) := by decide +kernel
theorem d_M_there_13 : decode prog_7_method_26_code 13 = .ok (.iconst 1, 1) := by decide +kernel
theorem d_M_there_14 : decode prog_7_method_26_code 14 = .ok (.goto 4, 3) := by decide +kernel
theorem d_M_there_17 : decode prog_7_method_26_code 17 = .ok (.iconst 0, 1) := by decide +kernel
theorem d_M_there_18 : decode prog_7_method_26_code 18 = .ok (.ireturn, 1) := by decide +kernel
theorem d_M_drop_0 : decode prog_7_method_28_code 0 = .ok (.iload_n 1, 1) := by decide +kernel
theorem d_M_drop_1 : decode prog_7_method_28_code 1 = .ok (.iconst 2, 1) := by decide +kernel
theorem d_M_drop_2 : decode prog_7_method_28_code 2 = .ok (.invokestatic 123, 3) := by decide +kernel
theorem d_M_drop_5 : decode prog_7_method_28_code 5 = .ok (.ifCond .ne 11, 3) := by decide +kernel
theorem d_M_drop_8 : decode prog_7_method_28_code 8 = .ok (.iload_n 2, 1) := by decide +kernel
theorem d_M_drop_9 : decode prog_7_method_28_code 9 = .ok (.iconst 4, 1) := by decide +kernel
theorem d_M_drop_10 : decode prog_7_method_28_code 10 = .ok (.invokestatic 123, 3) := by decide +kernel
theorem d_M_drop_13 : decode prog_7_method_28_code 13 = .ok (.ifCond .eq 5, 3) := by decide +kernel
theorem d_M_drop_16 : decode prog_7_method_28_code 16 = .ok (.iconst 0, 1) := by decide +kernel
theorem d_M_drop_17 : decode prog_7_method_28_code 17 = .ok (.ireturn, 1) := by decide +kernel
theorem d_M_drop_18 : decode prog_7_method_28_code 18 = .ok (.aload_n 0, 1) := by decide +kernel
theorem d_M_drop_19 : decode prog_7_method_28_code 19 = .ok (.iload_n 1, 1) := by decide +kernel
theorem d_M_drop_20 : decode prog_7_method_28_code 20 = .ok (.iload_n 2, 1) := by decide +kernel
theorem d_M_drop_21 : decode prog_7_method_28_code 21 = .ok (.invokevirtual 130, 3) := by decide +kernel
theorem d_M_drop_24 : decode prog_7_method_28_code 24 = .ok (.ifCond .eq 13, 3) := by decide +kernel
theorem d_M_drop_27 : decode prog_7_method_28_code 27 = .ok (.iload_n 2, 1) := by decide +kernel
theorem d_M_drop_28 : decode prog_7_method_28_code 28 = .ok (.aload_n 0, 1) := by decide +kernel
theorem d_M_drop_29 : decode prog_7_method_28_code 29 = .ok (.getfield 26, 3) := by decide +kernel
theorem d_M_drop_32 : decode prog_7_method_28_code 32 = .ok (.iload_n 1, 1) := by decide +kernel
theorem d_M_drop_33 : decode prog_7_method_28_code 33 = .ok (.iaload, 1) := by decide +kernel
theorem d_M_drop_34 : decode prog_7_method_28_code 34 = .ok (.if_icmp .ne 5, 3) := by decide +kernel
theorem d_M_drop_37 : decode prog_7_method_28_code 37 = .ok (.iconst 0, 1) := by decide +kernel
theorem d_M_drop_38 : decode prog_7_method_28_code 38 = .ok (.ireturn, 1) := by decide +kernel
theorem d_M_drop_39 : decode prog_7_method_28_code 39 = .ok (.aload_n 0, 1) := by decide +kernel
theorem d_M_drop_40 : decode prog_7_method_28_code 40 = .ok (.getfield 23, 3) := by decide +kernel
theorem d_M_drop_43 : decode prog_7_method_28_code 43 = .ok (.iconst 4, 1) := by decide +kernel
theorem d_M_drop_44 : decode prog_7_method_28_code 44 = .ok (.iload_n 1, 1) := by decide +kernel
theorem d_M_drop_45 : decode prog_7_method_28_code 45 = .ok (.imul, 1) := by decide +kernel
theorem d_M_drop_46 : decode prog_7_method_28_code 46 = .ok (.iload_n 2, 1) := by decide +kernel
theorem d_M_drop_47 : decode prog_7_method_28_code 47 = .ok (.iadd, 1) := by decide +kernel
theorem d_M_drop_48 : decode prog_7_method_28_code 48 = .ok (.bipush (-2), 2) := by decide +kernel
theorem d_M_drop_50 : decode prog_7_method_28_code 50 = .ok (.iastore, 1) := by decide +kernel
theorem d_M_drop_51 : decode prog_7_method_28_code 51 = .ok (.iconst 1, 1) := by decide +kernel
theorem d_M_drop_52 : decode prog_7_method_28_code 52 = .ok (.ireturn, 1) := by decide +kernel
theorem d_M_checkout_0 : decode prog_7_method_29_code 0 = .ok (.iload_n 1, 1) := by decide +kernel
theorem d_M_checkout_1 : decode prog_7_method_29_code 1 = .ok (.iconst 2, 1) := by decide +kernel
theorem d_M_checkout_2 : decode prog_7_method_29_code 2 = .ok (.invokestatic 123, 3) := by decide +kernel
theorem d_M_checkout_5 : decode prog_7_method_29_code 5 = .ok (.ifCond .ne 11, 3) := by decide +kernel
theorem d_M_checkout_8 : decode prog_7_method_29_code 8 = .ok (.iload_n 2, 1) := by decide +kernel
theorem d_M_checkout_9 : decode prog_7_method_29_code 9 = .ok (.iconst 4, 1) := by decide +kernel
theorem d_M_checkout_10 : decode prog_7_method_29_code 10 = .ok (.invokestatic 123, 3) := by decide +kernel
theorem d_M_checkout_13 : decode prog_7_method_29_code 13 = .ok (.ifCond .eq 5, 3) := by decide +kernel
theorem d_M_checkout_16 : decode prog_7_method_29_code 16 = .ok (.iconst (-1), 1) := by decide +kernel
theorem d_M_checkout_17 : decode prog_7_method_29_code 17 = .ok (.ireturn, 1) := by decide +kernel
theorem d_M_checkout_18 : decode prog_7_method_29_code 18 = .ok (.aload_n 0, 1) := by decide +kernel
theorem d_M_checkout_19 : decode prog_7_method_29_code 19 = .ok (.iload_n 1, 1) := by decide +kernel
theorem d_M_checkout_20 : decode prog_7_method_29_code 20 = .ok (.iload_n 2, 1) := by decide +kernel
theorem d_M_checkout_21 : decode prog_7_method_29_code 21 = .ok (.invokevirtual 130, 3) := by decide +kernel
theorem d_M_checkout_24 : decode prog_7_method_29_code 24 = .ok (.ifCond .ne 6, 3) := by decide +kernel
theorem d_M_checkout_27 : decode prog_7_method_29_code 27 = .ok (.bipush (-2), 2) := by decide +kernel
theorem d_M_checkout_29 : decode prog_7_method_29_code 29 = .ok (.ireturn, 1) := by decide +kernel
theorem d_M_checkout_30 : decode prog_7_method_29_code 30 = .ok (.aload_n 0, 1) := by decide +kernel
theorem d_M_checkout_31 : decode prog_7_method_29_code 31 = .ok (.iload_n 1, 1) := by decide +kernel
theorem d_M_checkout_32 : decode prog_7_method_29_code 32 = .ok (.invokevirtual 133, 3) := by decide +kernel
theorem d_M_checkout_35 : decode prog_7_method_29_code 35 = .ok (.ifCond .eq 6, 3) := by decide +kernel
theorem d_M_checkout_38 : decode prog_7_method_29_code 38 = .ok (.bipush (-3), 2) := by decide +kernel
theorem d_M_checkout_40 : decode prog_7_method_29_code 40 = .ok (.ireturn, 1) := by decide +kernel
theorem d_M_checkout_41 : decode prog_7_method_29_code 41 = .ok (.aload_n 0, 1) := by decide +kernel
theorem d_M_checkout_42 : decode prog_7_method_29_code 42 = .ok (.getfield 26, 3) := by decide +kernel
theorem d_M_checkout_45 : decode prog_7_method_29_code 45 = .ok (.iload_n 1, 1) := by decide +kernel
theorem d_M_checkout_46 : decode prog_7_method_29_code 46 = .ok (.iload_n 2, 1) := by decide +kernel
theorem d_M_checkout_47 : decode prog_7_method_29_code 47 = .ok (.iastore, 1) := by decide +kernel
theorem d_M_checkout_48 : decode prog_7_method_29_code 48 = .ok (.aload_n 0, 1) := by decide +kernel
theorem d_M_checkout_49 : decode prog_7_method_29_code 49 = .ok (.iload_n 1, 1) := by decide +kernel
theorem d_M_checkout_50 : decode prog_7_method_29_code 50 = .ok (.aload_n 0, 1) := by decide +kernel
theorem d_M_checkout_51 : decode prog_7_method_29_code 51 = .ok (.iload_n 1, 1) := by decide +kernel
theorem d_M_checkout_52 : decode prog_7_method_29_code 52 = .ok (.invokevirtual 111, 3) := by decide +kernel
theorem d_M_checkout_55 : decode prog_7_method_29_code 55 = .ok (.invokevirtual 137, 3) := by decide +kernel
theorem d_M_checkout_58 : decode prog_7_method_29_code 58 = .ok (.ireturn, 1) := by decide +kernel
theorem d_M_dirty_0 : decode prog_7_method_18_code 0 = .ok (.aload_n 0, 1) := by decide +kernel
theorem d_M_dirty_1 : decode prog_7_method_18_code 1 = .ok (.aload_n 0, 1) := by decide +kernel
theorem d_M_dirty_2 : decode prog_7_method_18_code 2 = .ok (.getfield 29, 3) := by decide +kernel
theorem d_M_dirty_5 : decode prog_7_method_18_code 5 = .ok (.iload_n 1, 1) := by decide +kernel
theorem d_M_dirty_6 : decode prog_7_method_18_code 6 = .ok (.invokevirtual 119, 3) := by decide +kernel
theorem d_M_dirty_9 : decode prog_7_method_18_code 9 = .ok (.ifCond .eq 15, 3) := by decide +kernel
theorem d_M_dirty_12 : decode prog_7_method_18_code 12 = .ok (.aload_n 0, 1) := by decide +kernel
theorem d_M_dirty_13 : decode prog_7_method_18_code 13 = .ok (.aload_n 0, 1) := by decide +kernel
theorem d_M_dirty_14 : decode prog_7_method_18_code 14 = .ok (.getfield 32, 3) := by decide +kernel
theorem d_M_dirty_17 : decode prog_7_method_18_code 17 = .ok (.iload_n 1, 1) := by decide +kernel
theorem d_M_dirty_18 : decode prog_7_method_18_code 18 = .ok (.invokevirtual 119, 3) := by decide +kernel
theorem d_M_dirty_21 : decode prog_7_method_18_code 21 = .ok (.ifCond .ne 7, 3) := by decide +kernel
theorem d_M_dirty_24 : decode prog_7_method_18_code 24 = .ok (.iconst 1, 1) := by decide +kernel
theorem d_M_dirty_25 : decode prog_7_method_18_code 25 = .ok (.goto 4, 3) := by decide +kernel
theorem d_M_dirty_28 : decode prog_7_method_18_code 28 = .ok (.iconst 0, 1) := by decide +kernel
theorem d_M_dirty_29 : decode prog_7_method_18_code 29 = .ok (.ireturn, 1) := by decide +kernel
theorem d_M_moveTo_0 : decode prog_7_method_20_code 0 = .ok (.aload_n 0, 1) := by decide +kernel
theorem d_M_moveTo_1 : decode prog_7_method_20_code 1 = .ok (.getfield 23, 3) := by decide +kernel
theorem d_M_moveTo_4 : decode prog_7_method_20_code 4 = .ok (.iconst 4, 1) := by decide +kernel
theorem d_M_moveTo_5 : decode prog_7_method_20_code 5 = .ok (.iload_n 1, 1) := by decide +kernel
theorem d_M_moveTo_6 : decode prog_7_method_20_code 6 = .ok (.imul, 1) := by decide +kernel
theorem d_M_moveTo_7 : decode prog_7_method_20_code 7 = .ok (.aload_n 0, 1) := by decide +kernel
theorem d_M_moveTo_8 : decode prog_7_method_20_code 8 = .ok (.getfield 26, 3) := by decide +kernel
theorem d_M_moveTo_11 : decode prog_7_method_20_code 11 = .ok (.iload_n 1, 1) := by decide +kernel
theorem d_M_moveTo_12 : decode prog_7_method_20_code 12 = .ok (.iaload, 1) := by decide +kernel
theorem d_M_moveTo_13 : decode prog_7_method_20_code 13 = .ok (.iadd, 1) := by decide +kernel
theorem d_M_moveTo_14 : decode prog_7_method_20_code 14 = .ok (.iload_n 2, 1) := by decide +kernel
theorem d_M_moveTo_15 : decode prog_7_method_20_code 15 = .ok (.iastore, 1) := by decide +kernel
theorem d_M_moveTo_16 : decode prog_7_method_20_code 16 = .ok (.iconst 0, 1) := by decide +kernel
theorem d_M_moveTo_17 : decode prog_7_method_20_code 17 = .ok (.istore_n 3, 1) := by decide +kernel
theorem d_M_moveTo_18 : decode prog_7_method_20_code 18 = .ok (.iload_n 3, 1) := by decide +kernel
theorem d_M_moveTo_19 : decode prog_7_method_20_code 19 = .ok (.iconst 4, 1) := by decide +kernel
theorem d_M_moveTo_20 : decode prog_7_method_20_code 20 = .ok (.if_icmp .ge 41, 3) := by decide +kernel
theorem d_M_moveTo_23 : decode prog_7_method_20_code 23 = .ok (.aload_n 0, 1) := by decide +kernel
theorem d_M_moveTo_24 : decode prog_7_method_20_code 24 = .ok (.getfield 29, 3) := by decide +kernel
theorem d_M_moveTo_27 : decode prog_7_method_20_code 27 = .ok (.iconst 4, 1) := by decide +kernel
theorem d_M_moveTo_28 : decode prog_7_method_20_code 28 = .ok (.iload_n 1, 1) := by decide +kernel
theorem d_M_moveTo_29 : decode prog_7_method_20_code 29 = .ok (.imul, 1) := by decide +kernel
theorem d_M_moveTo_30 : decode prog_7_method_20_code 30 = .ok (.iload_n 3, 1) := by decide +kernel
theorem d_M_moveTo_31 : decode prog_7_method_20_code 31 = .ok (.iadd, 1) := by decide +kernel
theorem d_M_moveTo_32 : decode prog_7_method_20_code 32 = .ok (.aload_n 0, 1) := by decide +kernel
theorem d_M_moveTo_33 : decode prog_7_method_20_code 33 = .ok (.iload_n 2, 1) := by decide +kernel
theorem d_M_moveTo_34 : decode prog_7_method_20_code 34 = .ok (.iload_n 3, 1) := by decide +kernel
theorem d_M_moveTo_35 : decode prog_7_method_20_code 35 = .ok (.invokevirtual 115, 3) := by decide +kernel
theorem d_M_moveTo_38 : decode prog_7_method_20_code 38 = .ok (.lastore, 1) := by decide +kernel
theorem d_M_moveTo_39 : decode prog_7_method_20_code 39 = .ok (.aload_n 0, 1) := by decide +kernel
theorem d_M_moveTo_40 : decode prog_7_method_20_code 40 = .ok (.getfield 32, 3) := by decide +kernel
theorem d_M_moveTo_43 : decode prog_7_method_20_code 43 = .ok (.iconst 4, 1) := by decide +kernel
theorem d_M_moveTo_44 : decode prog_7_method_20_code 44 = .ok (.iload_n 1, 1) := by decide +kernel
theorem d_M_moveTo_45 : decode prog_7_method_20_code 45 = .ok (.imul, 1) := by decide +kernel
theorem d_M_moveTo_46 : decode prog_7_method_20_code 46 = .ok (.iload_n 3, 1) := by decide +kernel
theorem d_M_moveTo_47 : decode prog_7_method_20_code 47 = .ok (.iadd, 1) := by decide +kernel
theorem d_M_moveTo_48 : decode prog_7_method_20_code 48 = .ok (.aload_n 0, 1) := by decide +kernel
theorem d_M_moveTo_49 : decode prog_7_method_20_code 49 = .ok (.iload_n 2, 1) := by decide +kernel
theorem d_M_moveTo_50 : decode prog_7_method_20_code 50 = .ok (.iload_n 3, 1) := by decide +kernel
theorem d_M_moveTo_51 : decode prog_7_method_20_code 51 = .ok (.invokevirtual 115, 3) := by decide +kernel
theorem d_M_moveTo_54 : decode prog_7_method_20_code 54 = .ok (.lastore, 1) := by decide +kernel
theorem d_M_moveTo_55 : decode prog_7_method_20_code 55 = .ok (.iinc 3 1, 3) := by decide +kernel
theorem d_M_moveTo_58 : decode prog_7_method_20_code 58 = .ok (.goto (-40), 3) := by decide +kernel
theorem d_M_moveTo_61 : decode prog_7_method_20_code 61 = .ok (.iload_n 2, 1) := by decide +kernel
theorem d_M_moveTo_62 : decode prog_7_method_20_code 62 = .ok (.ireturn, 1) := by decide +kernel
theorem d_M_merge_0 : decode prog_7_method_30_code 0 = .ok (.iload_n 1, 1) := by decide +kernel
theorem d_M_merge_1 : decode prog_7_method_30_code 1 = .ok (.iconst 2, 1) := by decide +kernel
theorem d_M_merge_2 : decode prog_7_method_30_code 2 = .ok (.invokestatic 123, 3) := by decide +kernel
theorem d_M_merge_5 : decode prog_7_method_30_code 5 = .ok (.ifCond .ne 11, 3) := by decide +kernel
theorem d_M_merge_8 : decode prog_7_method_30_code 8 = .ok (.iload_n 2, 1) := by decide +kernel
theorem d_M_merge_9 : decode prog_7_method_30_code 9 = .ok (.iconst 4, 1) := by decide +kernel
theorem d_M_merge_10 : decode prog_7_method_30_code 10 = .ok (.invokestatic 123, 3) := by decide +kernel
theorem d_M_merge_13 : decode prog_7_method_30_code 13 = .ok (.ifCond .eq 5, 3) := by decide +kernel
theorem d_M_merge_16 : decode prog_7_method_30_code 16 = .ok (.iconst (-1), 1) := by decide +kernel
theorem d_M_merge_17 : decode prog_7_method_30_code 17 = .ok (.ireturn, 1) := by decide +kernel
theorem d_M_merge_18 : decode prog_7_method_30_code 18 = .ok (.aload_n 0, 1) := by decide +kernel
theorem d_M_merge_19 : decode prog_7_method_30_code 19 = .ok (.iload_n 1, 1) := by decide +kernel
theorem d_M_merge_20 : decode prog_7_method_30_code 20 = .ok (.invokevirtual 111, 3) := by decide +kernel
theorem d_M_merge_23 : decode prog_7_method_30_code 23 = .ok (.istore_n 3, 1) := by decide +kernel
theorem d_M_merge_24 : decode prog_7_method_30_code 24 = .ok (.aload_n 0, 1) := by decide +kernel
theorem d_M_merge_25 : decode prog_7_method_30_code 25 = .ok (.iload_n 1, 1) := by decide +kernel
theorem d_M_merge_26 : decode prog_7_method_30_code 26 = .ok (.iload_n 2, 1) := by decide +kernel
theorem d_M_merge_27 : decode prog_7_method_30_code 27 = .ok (.invokevirtual 130, 3) := by decide +kernel
theorem d_M_merge_30 : decode prog_7_method_30_code 30 = .ok (.ifCond .eq 7, 3) := by decide +kernel
theorem d_M_merge_33 : decode prog_7_method_30_code 33 = .ok (.iload_n 3, 1) := by decide +kernel
theorem d_M_merge_34 : decode prog_7_method_30_code 34 = .ok (.ifCond .ge 6, 3) := by decide +kernel
theorem d_M_merge_37 : decode prog_7_method_30_code 37 = .ok (.bipush (-2), 2) := by decide +kernel
theorem d_M_merge_39 : decode prog_7_method_30_code 39 = .ok (.ireturn, 1) := by decide +kernel
theorem d_M_merge_40 : decode prog_7_method_30_code 40 = .ok (.aload_n 0, 1) := by decide +kernel
theorem d_M_merge_41 : decode prog_7_method_30_code 41 = .ok (.iload_n 1, 1) := by decide +kernel
theorem d_M_merge_42 : decode prog_7_method_30_code 42 = .ok (.invokevirtual 133, 3) := by decide +kernel
theorem d_M_merge_45 : decode prog_7_method_30_code 45 = .ok (.ifCond .eq 6, 3) := by decide +kernel
theorem d_M_merge_48 : decode prog_7_method_30_code 48 = .ok (.bipush (-3), 2) := by decide +kernel
theorem d_M_merge_50 : decode prog_7_method_30_code 50 = .ok (.ireturn, 1) := by decide +kernel
theorem d_M_merge_51 : decode prog_7_method_30_code 51 = .ok (.aload_n 0, 1) := by decide +kernel
theorem d_M_merge_52 : decode prog_7_method_30_code 52 = .ok (.getfield 23, 3) := by decide +kernel
theorem d_M_merge_55 : decode prog_7_method_30_code 55 = .ok (.iconst 4, 1) := by decide +kernel
theorem d_M_merge_56 : decode prog_7_method_30_code 56 = .ok (.iload_n 1, 1) := by decide +kernel
theorem d_M_merge_57 : decode prog_7_method_30_code 57 = .ok (.imul, 1) := by decide +kernel
theorem d_M_merge_58 : decode prog_7_method_30_code 58 = .ok (.iload_n 2, 1) := by decide +kernel
theorem d_M_merge_59 : decode prog_7_method_30_code 59 = .ok (.iadd, 1) := by decide +kernel
theorem d_M_merge_60 : decode prog_7_method_30_code 60 = .ok (.iaload, 1) := by decide +kernel
theorem d_M_merge_61 : decode prog_7_method_30_code 61 = .ok (.istore 4, 2) := by decide +kernel
theorem d_M_merge_63 : decode prog_7_method_30_code 63 = .ok (.aload_n 0, 1) := by decide +kernel
theorem d_M_merge_64 : decode prog_7_method_30_code 64 = .ok (.iload_n 3, 1) := by decide +kernel
theorem d_M_merge_65 : decode prog_7_method_30_code 65 = .ok (.iload 4, 2) := by decide +kernel
theorem d_M_merge_67 : decode prog_7_method_30_code 67 = .ok (.invokevirtual 107, 3) := by decide +kernel
theorem d_M_merge_70 : decode prog_7_method_30_code 70 = .ok (.ifCond .eq 6, 3) := by decide +kernel
theorem d_M_merge_73 : decode prog_7_method_30_code 73 = .ok (.bipush (-4), 2) := by decide +kernel
theorem d_M_merge_75 : decode prog_7_method_30_code 75 = .ok (.ireturn, 1) := by decide +kernel
theorem d_M_merge_76 : decode prog_7_method_30_code 76 = .ok (.aload_n 0, 1) := by decide +kernel
theorem d_M_merge_77 : decode prog_7_method_30_code 77 = .ok (.iload 4, 2) := by decide +kernel
theorem d_M_merge_79 : decode prog_7_method_30_code 79 = .ok (.iload_n 3, 1) := by decide +kernel
theorem d_M_merge_80 : decode prog_7_method_30_code 80 = .ok (.invokevirtual 107, 3) := by decide +kernel
theorem d_M_merge_83 : decode prog_7_method_30_code 83 = .ok (.ifCond .eq 11, 3) := by decide +kernel
theorem d_M_merge_86 : decode prog_7_method_30_code 86 = .ok (.aload_n 0, 1) := by decide +kernel
theorem d_M_merge_87 : decode prog_7_method_30_code 87 = .ok (.iload_n 1, 1) := by decide +kernel
theorem d_M_merge_88 : decode prog_7_method_30_code 88 = .ok (.iload 4, 2) := by decide +kernel
theorem d_M_merge_90 : decode prog_7_method_30_code 90 = .ok (.invokevirtual 137, 3) := by decide +kernel
theorem d_M_merge_93 : decode prog_7_method_30_code 93 = .ok (.ireturn, 1) := by decide +kernel
theorem d_M_merge_94 : decode prog_7_method_30_code 94 = .ok (.aload_n 0, 1) := by decide +kernel
theorem d_M_merge_95 : decode prog_7_method_30_code 95 = .ok (.iload_n 3, 1) := by decide +kernel
theorem d_M_merge_96 : decode prog_7_method_30_code 96 = .ok (.iload 4, 2) := by decide +kernel
theorem d_M_merge_98 : decode prog_7_method_30_code 98 = .ok (.invokevirtual 141, 3) := by decide +kernel
theorem d_M_merge_101 : decode prog_7_method_30_code 101 = .ok (.istore 5, 2) := by decide +kernel
theorem d_M_merge_103 : decode prog_7_method_30_code 103 = .ok (.iconst 0, 1) := by decide +kernel
theorem d_M_merge_104 : decode prog_7_method_30_code 104 = .ok (.istore 6, 2) := by decide +kernel
theorem d_M_merge_106 : decode prog_7_method_30_code 106 = .ok (.iload 6, 2) := by decide +kernel
theorem d_M_merge_108 : decode prog_7_method_30_code 108 = .ok (.iconst 4, 1) := by decide +kernel
theorem d_M_merge_109 : decode prog_7_method_30_code 109 = .ok (.if_icmp .ge 53, 3) := by decide +kernel
theorem d_M_merge_112 : decode prog_7_method_30_code 112 = .ok (.aload_n 0, 1) := by decide +kernel
theorem d_M_merge_113 : decode prog_7_method_30_code 113 = .ok (.getfield 35, 3) := by decide +kernel
theorem d_M_merge_116 : decode prog_7_method_30_code 116 = .ok (.iload 6, 2) := by decide +kernel
theorem d_M_merge_118 : decode prog_7_method_30_code 118 = .ok (.aload_n 0, 1) := by decide +kernel
theorem d_M_merge_119 : decode prog_7_method_30_code 119 = .ok (.iload 5, 2) := by decide +kernel
theorem d_M_merge_121 : decode prog_7_method_30_code 121 = .ok (.iload 6, 2) := by decide +kernel
theorem d_M_merge_123 : decode prog_7_method_30_code 123 = .ok (.invokevirtual 115, 3) := by decide +kernel
theorem d_M_merge_126 : decode prog_7_method_30_code 126 = .ok (.lastore, 1) := by decide +kernel
theorem d_M_merge_127 : decode prog_7_method_30_code 127 = .ok (.aload_n 0, 1) := by decide +kernel
theorem d_M_merge_128 : decode prog_7_method_30_code 128 = .ok (.getfield 38, 3) := by decide +kernel
theorem d_M_merge_131 : decode prog_7_method_30_code 131 = .ok (.iload 6, 2) := by decide +kernel
theorem d_M_merge_133 : decode prog_7_method_30_code 133 = .ok (.aload_n 0, 1) := by decide +kernel
theorem d_M_merge_134 : decode prog_7_method_30_code 134 = .ok (.iload_n 3, 1) := by decide +kernel
theorem d_M_merge_135 : decode prog_7_method_30_code 135 = .ok (.iload 6, 2) := by decide +kernel
theorem d_M_merge_137 : decode prog_7_method_30_code 137 = .ok (.invokevirtual 115, 3) := by decide +kernel
theorem d_M_merge_140 : decode prog_7_method_30_code 140 = .ok (.lastore, 1) := by decide +kernel
theorem d_M_merge_141 : decode prog_7_method_30_code 141 = .ok (.aload_n 0, 1) := by decide +kernel
theorem d_M_merge_142 : decode prog_7_method_30_code 142 = .ok (.getfield 41, 3) := by decide +kernel
theorem d_M_merge_145 : decode prog_7_method_30_code 145 = .ok (.iload 6, 2) := by decide +kernel
theorem d_M_merge_147 : decode prog_7_method_30_code 147 = .ok (.aload_n 0, 1) := by decide +kernel
theorem d_M_merge_148 : decode prog_7_method_30_code 148 = .ok (.iload 4, 2) := by decide +kernel
theorem d_M_merge_150 : decode prog_7_method_30_code 150 = .ok (.iload 6, 2) := by decide +kernel
theorem d_M_merge_152 : decode prog_7_method_30_code 152 = .ok (.invokevirtual 115, 3) := by decide +kernel
theorem d_M_merge_155 : decode prog_7_method_30_code 155 = .ok (.lastore, 1) := by decide +kernel
theorem d_M_merge_156 : decode prog_7_method_30_code 156 = .ok (.iinc 6 1, 3) := by decide +kernel
theorem d_M_merge_159 : decode prog_7_method_30_code 159 = .ok (.goto (-53), 3) := by decide +kernel
theorem d_M_merge_162 : decode prog_7_method_30_code 162 = .ok (.aload_n 0, 1) := by decide +kernel
theorem d_M_merge_163 : decode prog_7_method_30_code 163 = .ok (.invokevirtual 144, 3) := by decide +kernel
theorem d_M_merge_166 : decode prog_7_method_30_code 166 = .ok (.ifCond .ne 6, 3) := by decide +kernel
theorem d_M_merge_169 : decode prog_7_method_30_code 169 = .ok (.bipush (-5), 2) := by decide +kernel
theorem d_M_merge_171 : decode prog_7_method_30_code 171 = .ok (.ireturn, 1) := by decide +kernel
theorem d_M_merge_172 : decode prog_7_method_30_code 172 = .ok (.aload_n 0, 1) := by decide +kernel
theorem d_M_merge_173 : decode prog_7_method_30_code 173 = .ok (.getfield 104, 3) := by decide +kernel
theorem d_M_merge_176 : decode prog_7_method_30_code 176 = .ok (.bipush 40, 2) := by decide +kernel
theorem d_M_merge_178 : decode prog_7_method_30_code 178 = .ok (.if_icmp .ne 6, 3) := by decide +kernel
theorem d_M_merge_181 : decode prog_7_method_30_code 181 = .ok (.bipush (-6), 2) := by decide +kernel
theorem d_M_merge_183 : decode prog_7_method_30_code 183 = .ok (.ireturn, 1) := by decide +kernel
theorem d_M_merge_184 : decode prog_7_method_30_code 184 = .ok (.aload_n 0, 1) := by decide +kernel
theorem d_M_merge_185 : decode prog_7_method_30_code 185 = .ok (.iload_n 1, 1) := by decide +kernel
theorem d_M_merge_186 : decode prog_7_method_30_code 186 = .ok (.iload_n 3, 1) := by decide +kernel
theorem d_M_merge_187 : decode prog_7_method_30_code 187 = .ok (.iload 4, 2) := by decide +kernel
theorem d_M_merge_189 : decode prog_7_method_30_code 189 = .ok (.invokevirtual 126, 3) := by decide +kernel
theorem d_M_merge_192 : decode prog_7_method_30_code 192 = .ok (.istore 6, 2) := by decide +kernel
theorem d_M_merge_194 : decode prog_7_method_30_code 194 = .ok (.aload_n 0, 1) := by decide +kernel
theorem d_M_merge_195 : decode prog_7_method_30_code 195 = .ok (.iload 6, 2) := by decide +kernel
theorem d_M_merge_197 : decode prog_7_method_30_code 197 = .ok (.invokevirtual 148, 3) := by decide +kernel
theorem d_M_merge_200 : decode prog_7_method_30_code 200 = .ok (.aload_n 0, 1) := by decide +kernel
theorem d_M_merge_201 : decode prog_7_method_30_code 201 = .ok (.iload_n 1, 1) := by decide +kernel
theorem d_M_merge_202 : decode prog_7_method_30_code 202 = .ok (.iload 6, 2) := by decide +kernel
theorem d_M_merge_204 : decode prog_7_method_30_code 204 = .ok (.invokevirtual 137, 3) := by decide +kernel
theorem d_M_merge_207 : decode prog_7_method_30_code 207 = .ok (.ireturn, 1) := by decide +kernel
end
section
/-! Decode rows. (Printed by gen_names.py.) -/
theorem d_M_reaches_0 : decode prog_7_method_14_code 0 = .ok (.aload_n 0, 1) := by decide +kernel
theorem d_M_reaches_1 : decode prog_7_method_14_code 1 = .ok (.iload_n 1, 1) := by decide +kernel
theorem d_M_reaches_2 : decode prog_7_method_14_code 2 = .ok (.invokevirtual 100, 3) := by decide +kernel
theorem d_M_reaches_5 : decode prog_7_method_14_code 5 = .ok (.iload_n 2, 1) := by decide +kernel
theorem d_M_reaches_6 : decode prog_7_method_14_code 6 = .ok (.lshr, 1) := by decide +kernel
theorem d_M_reaches_7 : decode prog_7_method_14_code 7 = .ok (.lconst 1, 1) := by decide +kernel
theorem d_M_reaches_8 : decode prog_7_method_14_code 8 = .ok (.land, 1) := by decide +kernel
theorem d_M_reaches_9 : decode prog_7_method_14_code 9 = .ok (.lconst 1, 1) := by decide +kernel
theorem d_M_reaches_10 : decode prog_7_method_14_code 10 = .ok (.lcmp, 1) := by decide +kernel
theorem d_M_reaches_11 : decode prog_7_method_14_code 11 = .ok (.ifCond .ne 7, 3) := by decide +kernel
theorem d_M_reaches_14 : decode prog_7_method_14_code 14 = .ok (.iconst 1, 1) := by decide +kernel
theorem d_M_reaches_15 : decode prog_7_method_14_code 15 = .ok (.goto 4, 3) := by decide +kernel
theorem d_M_reaches_18 : decode prog_7_method_14_code 18 = .ok (.iconst 0, 1) := by decide +kernel
theorem d_M_reaches_19 : decode prog_7_method_14_code 19 = .ok (.ireturn, 1) := by decide +kernel
theorem d_M_reached_0 : decode prog_7_method_13_code 0 = .ok (.iload_n 1, 1) := by decide +kernel
theorem d_M_reached_1 : decode prog_7_method_13_code 1 = .ok (.ifCond .ge 7, 3) := by decide +kernel
theorem d_M_reached_4 : decode prog_7_method_13_code 4 = .ok (.lconst 0, 1) := by decide +kernel
theorem d_M_reached_5 : decode prog_7_method_13_code 5 = .ok (.goto 6, 3) := by decide +kernel
theorem d_M_reached_8 : decode prog_7_method_13_code 8 = .ok (.lconst 1, 1) := by decide +kernel
theorem d_M_reached_9 : decode prog_7_method_13_code 9 = .ok (.iload_n 1, 1) := by decide +kernel
theorem d_M_reached_10 : decode prog_7_method_13_code 10 = .ok (.lshl, 1) := by decide +kernel
theorem d_M_reached_11 : decode prog_7_method_13_code 11 = .ok (.lstore_n 2, 1) := by decide +kernel
theorem d_M_reached_12 : decode prog_7_method_13_code 12 = .ok (.iload_n 1, 1) := by decide +kernel
theorem d_M_reached_13 : decode prog_7_method_13_code 13 = .ok (.istore 4, 2) := by decide +kernel
theorem d_M_reached_15 : decode prog_7_method_13_code 15 = .ok (.iload 4, 2) := by decide +kernel
theorem d_M_reached_17 : decode prog_7_method_13_code 17 = .ok (.ifCond .lt 89, 3) := by decide +kernel
theorem d_M_reached_20 : decode prog_7_method_13_code 20 = .ok (.lload_n 2, 1) := by decide +kernel
theorem d_M_reached_21 : decode prog_7_method_13_code 21 = .ok (.iload 4, 2) := by decide +kernel
theorem d_M_reached_23 : decode prog_7_method_13_code 23 = .ok (.lshr, 1) := by decide +kernel
theorem d_M_reached_24 : decode prog_7_method_13_code 24 = .ok (.lconst 1, 1) := by decide +kernel
theorem d_M_reached_25 : decode prog_7_method_13_code 25 = .ok (.land, 1) := by decide +kernel
theorem d_M_reached_26 : decode prog_7_method_13_code 26 = .ok (.lconst 1, 1) := by decide +kernel
theorem d_M_reached_27 : decode prog_7_method_13_code 27 = .ok (.lcmp, 1) := by decide +kernel
theorem d_M_reached_28 : decode prog_7_method_13_code 28 = .ok (.ifCond .ne 7, 3) := by decide +kernel
theorem d_M_reached_31 : decode prog_7_method_13_code 31 = .ok (.iconst 1, 1) := by decide +kernel
theorem d_M_reached_32 : decode prog_7_method_13_code 32 = .ok (.goto 4, 3) := by decide +kernel
theorem d_M_reached_35 : decode prog_7_method_13_code 35 = .ok (.iconst 0, 1) := by decide +kernel
theorem d_M_reached_36 : decode prog_7_method_13_code 36 = .ok (.istore 5, 2) := by decide +kernel
theorem d_M_reached_38 : decode prog_7_method_13_code 38 = .ok (.iload 5, 2) := by decide +kernel
theorem d_M_reached_40 : decode prog_7_method_13_code 40 = .ok (.ifCond .eq 27, 3) := by decide +kernel
theorem d_M_reached_43 : decode prog_7_method_13_code 43 = .ok (.aload_n 0, 1) := by decide +kernel
theorem d_M_reached_44 : decode prog_7_method_13_code 44 = .ok (.getfield 13, 3) := by decide +kernel
theorem d_M_reached_47 : decode prog_7_method_13_code 47 = .ok (.iload 4, 2) := by decide +kernel
theorem d_M_reached_49 : decode prog_7_method_13_code 49 = .ok (.iaload, 1) := by decide +kernel
theorem d_M_reached_50 : decode prog_7_method_13_code 50 = .ok (.ifCond .lt 17, 3) := by decide +kernel
theorem d_M_reached_53 : decode prog_7_method_13_code 53 = .ok (.lload_n 2, 1) := by decide +kernel
theorem d_M_reached_54 : decode prog_7_method_13_code 54 = .ok (.lconst 1, 1) := by decide +kernel
theorem d_M_reached_55 : decode prog_7_method_13_code 55 = .ok (.aload_n 0, 1) := by decide +kernel
theorem d_M_reached_56 : decode prog_7_method_13_code 56 = .ok (.getfield 13, 3) := by decide +kernel
theorem d_M_reached_59 : decode prog_7_method_13_code 59 = .ok (.iload 4, 2) := by decide +kernel
theorem d_M_reached_61 : decode prog_7_method_13_code 61 = .ok (.iaload, 1) := by decide +kernel
theorem d_M_reached_62 : decode prog_7_method_13_code 62 = .ok (.lshl, 1) := by decide +kernel
theorem d_M_reached_63 : decode prog_7_method_13_code 63 = .ok (.lor, 1) := by decide +kernel
theorem d_M_reached_64 : decode prog_7_method_13_code 64 = .ok (.goto 4, 3) := by decide +kernel
theorem d_M_reached_67 : decode prog_7_method_13_code 67 = .ok (.lload_n 2, 1) := by decide +kernel
theorem d_M_reached_68 : decode prog_7_method_13_code 68 = .ok (.lstore_n 2, 1) := by decide +kernel
theorem d_M_reached_69 : decode prog_7_method_13_code 69 = .ok (.iload 5, 2) := by decide +kernel
theorem d_M_reached_71 : decode prog_7_method_13_code 71 = .ok (.ifCond .eq 27, 3) := by decide +kernel
theorem d_M_reached_74 : decode prog_7_method_13_code 74 = .ok (.aload_n 0, 1) := by decide +kernel
theorem d_M_reached_75 : decode prog_7_method_13_code 75 = .ok (.getfield 17, 3) := by decide +kernel
theorem d_M_reached_78 : decode prog_7_method_13_code 78 = .ok (.iload 4, 2) := by decide +kernel
theorem d_M_reached_80 : decode prog_7_method_13_code 80 = .ok (.iaload, 1) := by decide +kernel
theorem d_M_reached_81 : decode prog_7_method_13_code 81 = .ok (.ifCond .lt 17, 3) := by decide +kernel
theorem d_M_reached_84 : decode prog_7_method_13_code 84 = .ok (.lload_n 2, 1) := by decide +kernel
theorem d_M_reached_85 : decode prog_7_method_13_code 85 = .ok (.lconst 1, 1) := by decide +kernel
theorem d_M_reached_86 : decode prog_7_method_13_code 86 = .ok (.aload_n 0, 1) := by decide +kernel
theorem d_M_reached_87 : decode prog_7_method_13_code 87 = .ok (.getfield 17, 3) := by decide +kernel
theorem d_M_reached_90 : decode prog_7_method_13_code 90 = .ok (.iload 4, 2) := by decide +kernel
theorem d_M_reached_92 : decode prog_7_method_13_code 92 = .ok (.iaload, 1) := by decide +kernel
theorem d_M_reached_93 : decode prog_7_method_13_code 93 = .ok (.lshl, 1) := by decide +kernel
theorem d_M_reached_94 : decode prog_7_method_13_code 94 = .ok (.lor, 1) := by decide +kernel
theorem d_M_reached_95 : decode prog_7_method_13_code 95 = .ok (.goto 4, 3) := by decide +kernel
theorem d_M_reached_98 : decode prog_7_method_13_code 98 = .ok (.lload_n 2, 1) := by decide +kernel
theorem d_M_reached_99 : decode prog_7_method_13_code 99 = .ok (.lstore_n 2, 1) := by decide +kernel
theorem d_M_reached_100 : decode prog_7_method_13_code 100 = .ok (.iinc 4 (-1), 3) := by decide +kernel
theorem d_M_reached_103 : decode prog_7_method_13_code 103 = .ok (.goto (-88), 3) := by decide +kernel
theorem d_M_reached_106 : decode prog_7_method_13_code 106 = .ok (.lload_n 2, 1) := by decide +kernel
theorem d_M_reached_107 : decode prog_7_method_13_code 107 = .ok (.lreturn, 1) := by decide +kernel
theorem d_M_baseOf_0 : decode prog_7_method_15_code 0 = .ok (.aload_n 0, 1) := by decide +kernel
theorem d_M_baseOf_1 : decode prog_7_method_15_code 1 = .ok (.iload_n 1, 1) := by decide +kernel
theorem d_M_baseOf_2 : decode prog_7_method_15_code 2 = .ok (.invokevirtual 100, 3) := by decide +kernel
theorem d_M_baseOf_5 : decode prog_7_method_15_code 5 = .ok (.aload_n 0, 1) := by decide +kernel
theorem d_M_baseOf_6 : decode prog_7_method_15_code 6 = .ok (.iload_n 2, 1) := by decide +kernel
theorem d_M_baseOf_7 : decode prog_7_method_15_code 7 = .ok (.invokevirtual 100, 3) := by decide +kernel
theorem d_M_baseOf_10 : decode prog_7_method_15_code 10 = .ok (.land, 1) := by decide +kernel
theorem d_M_baseOf_11 : decode prog_7_method_15_code 11 = .ok (.lstore_n 3, 1) := by decide +kernel
theorem d_M_baseOf_12 : decode prog_7_method_15_code 12 = .ok (.iconst 0, 1) := by decide +kernel
theorem d_M_baseOf_13 : decode prog_7_method_15_code 13 = .ok (.istore 5, 2) := by decide +kernel
theorem d_M_baseOf_15 : decode prog_7_method_15_code 15 = .ok (.iload 5, 2) := by decide +kernel
theorem d_M_baseOf_17 : decode prog_7_method_15_code 17 = .ok (.aload_n 0, 1) := by decide +kernel
theorem d_M_baseOf_18 : decode prog_7_method_15_code 18 = .ok (.getfield 104, 3) := by decide +kernel
theorem d_M_baseOf_21 : decode prog_7_method_15_code 21 = .ok (.if_icmp .ge 94, 3) := by decide +kernel
theorem d_M_baseOf_24 : decode prog_7_method_15_code 24 = .ok (.lload_n 3, 1) := by decide +kernel
theorem d_M_baseOf_25 : decode prog_7_method_15_code 25 = .ok (.iload 5, 2) := by decide +kernel
theorem d_M_baseOf_27 : decode prog_7_method_15_code 27 = .ok (.lshr, 1) := by decide +kernel
theorem d_M_baseOf_28 : decode prog_7_method_15_code 28 = .ok (.lconst 1, 1) := by decide +kernel
theorem d_M_baseOf_29 : decode prog_7_method_15_code 29 = .ok (.land, 1) := by decide +kernel
theorem d_M_baseOf_30 : decode prog_7_method_15_code 30 = .ok (.lconst 1, 1) := by decide +kernel
theorem d_M_baseOf_31 : decode prog_7_method_15_code 31 = .ok (.lcmp, 1) := by decide +kernel
theorem d_M_baseOf_32 : decode prog_7_method_15_code 32 = .ok (.ifCond .ne 7, 3) := by decide +kernel
theorem d_M_baseOf_35 : decode prog_7_method_15_code 35 = .ok (.iconst 1, 1) := by decide +kernel
theorem d_M_baseOf_36 : decode prog_7_method_15_code 36 = .ok (.goto 4, 3) := by decide +kernel
theorem d_M_baseOf_39 : decode prog_7_method_15_code 39 = .ok (.iconst 0, 1) := by decide +kernel
theorem d_M_baseOf_40 : decode prog_7_method_15_code 40 = .ok (.istore 6, 2) := by decide +kernel
theorem d_M_baseOf_42 : decode prog_7_method_15_code 42 = .ok (.iconst 0, 1) := by decide +kernel
theorem d_M_baseOf_43 : decode prog_7_method_15_code 43 = .ok (.istore 7, 2) := by decide +kernel
theorem d_M_baseOf_45 : decode prog_7_method_15_code 45 = .ok (.iload 7, 2) := by decide +kernel
theorem d_M_baseOf_47 : decode prog_7_method_15_code 47 = .ok (.aload_n 0, 1) := by decide +kernel
theorem d_M_baseOf_48 : decode prog_7_method_15_code 48 = .ok (.getfield 104, 3) := by decide +kernel
theorem d_M_baseOf_51 : decode prog_7_method_15_code 51 = .ok (.if_icmp .ge 50, 3) := by decide +kernel
theorem d_M_baseOf_54 : decode prog_7_method_15_code 54 = .ok (.iload 6, 2) := by decide +kernel
theorem d_M_baseOf_56 : decode prog_7_method_15_code 56 = .ok (.ifCond .eq 45, 3) := by decide +kernel
theorem d_M_baseOf_59 : decode prog_7_method_15_code 59 = .ok (.iload 7, 2) := by decide +kernel
theorem d_M_baseOf_61 : decode prog_7_method_15_code 61 = .ok (.iload 5, 2) := by decide +kernel
theorem d_M_baseOf_63 : decode prog_7_method_15_code 63 = .ok (.if_icmp .eq 25, 3) := by decide +kernel
theorem d_M_baseOf_66 : decode prog_7_method_15_code 66 = .ok (.lload_n 3, 1) := by decide +kernel
theorem d_M_baseOf_67 : decode prog_7_method_15_code 67 = .ok (.iload 7, 2) := by decide +kernel
theorem d_M_baseOf_69 : decode prog_7_method_15_code 69 = .ok (.lshr, 1) := by decide +kernel
theorem d_M_baseOf_70 : decode prog_7_method_15_code 70 = .ok (.lconst 1, 1) := by decide +kernel
theorem d_M_baseOf_71 : decode prog_7_method_15_code 71 = .ok (.land, 1) := by decide +kernel
theorem d_M_baseOf_72 : decode prog_7_method_15_code 72 = .ok (.lconst 0, 1) := by decide +kernel
theorem d_M_baseOf_73 : decode prog_7_method_15_code 73 = .ok (.lcmp, 1) := by decide +kernel
theorem d_M_baseOf_74 : decode prog_7_method_15_code 74 = .ok (.ifCond .eq 14, 3) := by decide +kernel
theorem d_M_baseOf_77 : decode prog_7_method_15_code 77 = .ok (.aload_n 0, 1) := by decide +kernel
theorem d_M_baseOf_78 : decode prog_7_method_15_code 78 = .ok (.iload 7, 2) := by decide +kernel
theorem d_M_baseOf_80 : decode prog_7_method_15_code 80 = .ok (.iload 5, 2) := by decide +kernel
theorem d_M_baseOf_82 : decode prog_7_method_15_code 82 = .ok (.invokevirtual 107, 3) := by decide +kernel
theorem d_M_baseOf_85 : decode prog_7_method_15_code 85 = .ok (.ifCond .ne 7, 3) := by decide +kernel
theorem d_M_baseOf_88 : decode prog_7_method_15_code 88 = .ok (.iconst 1, 1) := by decide +kernel
theorem d_M_baseOf_89 : decode prog_7_method_15_code 89 = .ok (.goto 4, 3) := by decide +kernel
theorem d_M_baseOf_92 : decode prog_7_method_15_code 92 = .ok (.iconst 0, 1) := by decide +kernel
theorem d_M_baseOf_93 : decode prog_7_method_15_code 93 = .ok (.istore 6, 2) := by decide +kernel
theorem d_M_baseOf_95 : decode prog_7_method_15_code 95 = .ok (.iinc 7 1, 3) := by decide +kernel
theorem d_M_baseOf_98 : decode prog_7_method_15_code 98 = .ok (.goto (-53), 3) := by decide +kernel
theorem d_M_baseOf_101 : decode prog_7_method_15_code 101 = .ok (.iload 6, 2) := by decide +kernel
theorem d_M_baseOf_103 : decode prog_7_method_15_code 103 = .ok (.ifCond .eq 6, 3) := by decide +kernel
theorem d_M_baseOf_106 : decode prog_7_method_15_code 106 = .ok (.iload 5, 2) := by decide +kernel
theorem d_M_baseOf_108 : decode prog_7_method_15_code 108 = .ok (.ireturn, 1) := by decide +kernel
theorem d_M_baseOf_109 : decode prog_7_method_15_code 109 = .ok (.iinc 5 1, 3) := by decide +kernel
theorem d_M_baseOf_112 : decode prog_7_method_15_code 112 = .ok (.goto (-97), 3) := by decide +kernel
theorem d_M_baseOf_115 : decode prog_7_method_15_code 115 = .ok (.bipush (-2), 2) := by decide +kernel
theorem d_M_baseOf_117 : decode prog_7_method_15_code 117 = .ok (.ireturn, 1) := by decide +kernel
theorem d_M_unite_0 : decode prog_7_method_10_code 0 = .ok (.iconst 1, 1) := by decide +kernel
theorem d_M_unite_1 : decode prog_7_method_10_code 1 = .ok (.istore_n 1, 1) := by decide +kernel
theorem d_M_unite_2 : decode prog_7_method_10_code 2 = .ok (.iconst 0, 1) := by decide +kernel
theorem d_M_unite_3 : decode prog_7_method_10_code 3 = .ok (.istore_n 2, 1) := by decide +kernel
theorem d_M_unite_4 : decode prog_7_method_10_code 4 = .ok (.iload_n 2, 1) := by decide +kernel
theorem d_M_unite_5 : decode prog_7_method_10_code 5 = .ok (.iconst 4, 1) := by decide +kernel
theorem d_M_unite_6 : decode prog_7_method_10_code 6 = .ok (.if_icmp .ge 140, 3) := by decide +kernel
theorem d_M_unite_9 : decode prog_7_method_10_code 9 = .ok (.aload_n 0, 1) := by decide +kernel
theorem d_M_unite_10 : decode prog_7_method_10_code 10 = .ok (.getfield 35, 3) := by decide +kernel
theorem d_M_unite_13 : decode prog_7_method_10_code 13 = .ok (.iload_n 2, 1) := by decide +kernel
theorem d_M_unite_14 : decode prog_7_method_10_code 14 = .ok (.laload, 1) := by decide +kernel
theorem d_M_unite_15 : decode prog_7_method_10_code 15 = .ok (.lstore_n 3, 1) := by decide +kernel
theorem d_M_unite_16 : decode prog_7_method_10_code 16 = .ok (.aload_n 0, 1) := by decide +kernel
theorem d_M_unite_17 : decode prog_7_method_10_code 17 = .ok (.getfield 38, 3) := by decide +kernel
theorem d_M_unite_20 : decode prog_7_method_10_code 20 = .ok (.iload_n 2, 1) := by decide +kernel
theorem d_M_unite_21 : decode prog_7_method_10_code 21 = .ok (.laload, 1) := by decide +kernel
theorem d_M_unite_22 : decode prog_7_method_10_code 22 = .ok (.lstore 5, 2) := by decide +kernel
theorem d_M_unite_24 : decode prog_7_method_10_code 24 = .ok (.aload_n 0, 1) := by decide +kernel
theorem d_M_unite_25 : decode prog_7_method_10_code 25 = .ok (.getfield 41, 3) := by decide +kernel
theorem d_M_unite_28 : decode prog_7_method_10_code 28 = .ok (.iload_n 2, 1) := by decide +kernel
theorem d_M_unite_29 : decode prog_7_method_10_code 29 = .ok (.laload, 1) := by decide +kernel
theorem d_M_unite_30 : decode prog_7_method_10_code 30 = .ok (.lstore 7, 2) := by decide +kernel
theorem d_M_unite_32 : decode prog_7_method_10_code 32 = .ok (.lload 5, 2) := by decide +kernel
theorem d_M_unite_34 : decode prog_7_method_10_code 34 = .ok (.lload_n 3, 1) := by decide +kernel
theorem d_M_unite_35 : decode prog_7_method_10_code 35 = .ok (.lcmp, 1) := by decide +kernel
theorem d_M_unite_36 : decode prog_7_method_10_code 36 = .ok (.ifCond .ne 14, 3) := by decide +kernel
theorem d_M_unite_39 : decode prog_7_method_10_code 39 = .ok (.aload_n 0, 1) := by decide +kernel
theorem d_M_unite_40 : decode prog_7_method_10_code 40 = .ok (.getfield 44, 3) := by decide +kernel
theorem d_M_unite_43 : decode prog_7_method_10_code 43 = .ok (.iload_n 2, 1) := by decide +kernel
theorem d_M_unite_44 : decode prog_7_method_10_code 44 = .ok (.lload 7, 2) := by decide +kernel
theorem d_M_unite_46 : decode prog_7_method_10_code 46 = .ok (.lastore, 1) := by decide +kernel
theorem d_M_unite_47 : decode prog_7_method_10_code 47 = .ok (.goto 70, 3) := by decide +kernel
theorem d_M_unite_50 : decode prog_7_method_10_code 50 = .ok (.lload 7, 2) := by decide +kernel
theorem d_M_unite_52 : decode prog_7_method_10_code 52 = .ok (.lload_n 3, 1) := by decide +kernel
theorem d_M_unite_53 : decode prog_7_method_10_code 53 = .ok (.lcmp, 1) := by decide +kernel
theorem d_M_unite_54 : decode prog_7_method_10_code 54 = .ok (.ifCond .eq 11, 3) := by decide +kernel
theorem d_M_unite_57 : decode prog_7_method_10_code 57 = .ok (.lload 7, 2) := by decide +kernel
theorem d_M_unite_59 : decode prog_7_method_10_code 59 = .ok (.lload 5, 2) := by decide +kernel
theorem d_M_unite_61 : decode prog_7_method_10_code 61 = .ok (.lcmp, 1) := by decide +kernel
theorem d_M_unite_62 : decode prog_7_method_10_code 62 = .ok (.ifCond .ne 14, 3) := by decide +kernel
theorem d_M_unite_65 : decode prog_7_method_10_code 65 = .ok (.aload_n 0, 1) := by decide +kernel
theorem d_M_unite_66 : decode prog_7_method_10_code 66 = .ok (.getfield 44, 3) := by decide +kernel
theorem d_M_unite_69 : decode prog_7_method_10_code 69 = .ok (.iload_n 2, 1) := by decide +kernel
theorem d_M_unite_70 : decode prog_7_method_10_code 70 = .ok (.lload 5, 2) := by decide +kernel
theorem d_M_unite_72 : decode prog_7_method_10_code 72 = .ok (.lastore, 1) := by decide +kernel
theorem d_M_unite_73 : decode prog_7_method_10_code 73 = .ok (.goto 44, 3) := by decide +kernel
theorem d_M_unite_76 : decode prog_7_method_10_code 76 = .ok (.aload_n 0, 1) := by decide +kernel
theorem d_M_unite_77 : decode prog_7_method_10_code 77 = .ok (.getfield 44, 3) := by decide +kernel
theorem d_M_unite_80 : decode prog_7_method_10_code 80 = .ok (.iload_n 2, 1) := by decide +kernel
theorem d_M_unite_81 : decode prog_7_method_10_code 81 = .ok (.lload_n 3, 1) := by decide +kernel
theorem d_M_unite_82 : decode prog_7_method_10_code 82 = .ok (.lconst 0, 1) := by decide +kernel
theorem d_M_unite_83 : decode prog_7_method_10_code 83 = .ok (.lcmp, 1) := by decide +kernel
theorem d_M_unite_84 : decode prog_7_method_10_code 84 = .ok (.ifCond .lt 17, 3) := by decide +kernel
theorem d_M_unite_87 : decode prog_7_method_10_code 87 = .ok (.lload 5, 2) := by decide +kernel
theorem d_M_unite_89 : decode prog_7_method_10_code 89 = .ok (.lconst 0, 1) := by decide +kernel
theorem d_M_unite_90 : decode prog_7_method_10_code 90 = .ok (.lcmp, 1) := by decide +kernel
theorem d_M_unite_91 : decode prog_7_method_10_code 91 = .ok (.ifCond .lt 10, 3) := by decide +kernel
theorem d_M_unite_94 : decode prog_7_method_10_code 94 = .ok (.lload 7, 2) := by decide +kernel
theorem d_M_unite_96 : decode prog_7_method_10_code 96 = .ok (.lconst 0, 1) := by decide +kernel
theorem d_M_unite_97 : decode prog_7_method_10_code 97 = .ok (.lcmp, 1) := by decide +kernel
theorem d_M_unite_98 : decode prog_7_method_10_code 98 = .ok (.ifCond .ge 9, 3) := by decide +kernel
theorem d_M_unite_101 : decode prog_7_method_10_code 101 = .ok (.ldc2_w 94, 3) := by decide +kernel
theorem d_M_unite_104 : decode prog_7_method_10_code 104 = .ok (.goto 12, 3) := by decide +kernel
theorem d_M_unite_107 : decode prog_7_method_10_code 107 = .ok (.aload_n 0, 1) := by decide +kernel
theorem d_M_unite_108 : decode prog_7_method_10_code 108 = .ok (.lload_n 3, 1) := by decide +kernel
theorem d_M_unite_109 : decode prog_7_method_10_code 109 = .ok (.lload 5, 2) := by decide +kernel
theorem d_M_unite_111 : decode prog_7_method_10_code 111 = .ok (.lload 7, 2) := by decide +kernel
theorem d_M_unite_113 : decode prog_7_method_10_code 113 = .ok (.invokevirtual 96, 3) := by decide +kernel
theorem d_M_unite_116 : decode prog_7_method_10_code 116 = .ok (.lastore, 1) := by decide +kernel
theorem d_M_unite_117 : decode prog_7_method_10_code 117 = .ok (.iload_n 1, 1) := by decide +kernel
theorem d_M_unite_118 : decode prog_7_method_10_code 118 = .ok (.ifCond .eq 20, 3) := by decide +kernel
theorem d_M_unite_121 : decode prog_7_method_10_code 121 = .ok (.aload_n 0, 1) := by decide +kernel
theorem d_M_unite_122 : decode prog_7_method_10_code 122 = .ok (.getfield 44, 3) := by decide +kernel
theorem d_M_unite_125 : decode prog_7_method_10_code 125 = .ok (.iload_n 2, 1) := by decide +kernel
theorem d_M_unite_126 : decode prog_7_method_10_code 126 = .ok (.laload, 1) := by decide +kernel
theorem d_M_unite_127 : decode prog_7_method_10_code 127 = .ok (.ldc2_w 94, 3) := by decide +kernel
theorem d_M_unite_130 : decode prog_7_method_10_code 130 = .ok (.lcmp, 1) := by decide +kernel
theorem d_M_unite_131 : decode prog_7_method_10_code 131 = .ok (.ifCond .eq 7, 3) := by decide +kernel
theorem d_M_unite_134 : decode prog_7_method_10_code 134 = .ok (.iconst 1, 1) := by decide +kernel
theorem d_M_unite_135 : decode prog_7_method_10_code 135 = .ok (.goto 4, 3) := by decide +kernel
theorem d_M_unite_138 : decode prog_7_method_10_code 138 = .ok (.iconst 0, 1) := by decide +kernel
theorem d_M_unite_139 : decode prog_7_method_10_code 139 = .ok (.istore_n 1, 1) := by decide +kernel
theorem d_M_unite_140 : decode prog_7_method_10_code 140 = .ok (.iinc 2 1, 3) := by decide +kernel
theorem d_M_unite_143 : decode prog_7_method_10_code 143 = .ok (.goto (-139), 3) := by decide +kernel
theorem d_M_unite_146 : decode prog_7_method_10_code 146 = .ok (.iload_n 1, 1) := by decide +kernel
theorem d_M_unite_147 : decode prog_7_method_10_code 147 = .ok (.ireturn, 1) := by decide +kernel
theorem d_M_uniteTexts_0 : decode prog_7_method_9_code 0 = .ok (.lload_n 1, 1) := by decide +kernel
theorem d_M_uniteTexts_1 : decode prog_7_method_9_code 1 = .ok (.invokestatic 66, 3) := by decide +kernel
theorem d_M_uniteTexts_4 : decode prog_7_method_9_code 4 = .ok (.istore 7, 2) := by decide +kernel
theorem d_M_uniteTexts_6 : decode prog_7_method_9_code 6 = .ok (.iconst 0, 1) := by decide +kernel
theorem d_M_uniteTexts_7 : decode prog_7_method_9_code 7 = .ok (.istore 8, 2) := by decide +kernel
theorem d_M_uniteTexts_9 : decode prog_7_method_9_code 9 = .ok (.iload 8, 2) := by decide +kernel
theorem d_M_uniteTexts_11 : decode prog_7_method_9_code 11 = .ok (.iload 7, 2) := by decide +kernel
theorem d_M_uniteTexts_13 : decode prog_7_method_9_code 13 = .ok (.if_icmp .ge 40, 3) := by decide +kernel
theorem d_M_uniteTexts_16 : decode prog_7_method_9_code 16 = .ok (.aload_n 0, 1) := by decide +kernel
theorem d_M_uniteTexts_17 : decode prog_7_method_9_code 17 = .ok (.getfield 47, 3) := by decide +kernel
theorem d_M_uniteTexts_20 : decode prog_7_method_9_code 20 = .ok (.iload 8, 2) := by decide +kernel
theorem d_M_uniteTexts_22 : decode prog_7_method_9_code 22 = .ok (.aload_n 0, 1) := by decide +kernel
theorem d_M_uniteTexts_23 : decode prog_7_method_9_code 23 = .ok (.lload_n 1, 1) := by decide +kernel
theorem d_M_uniteTexts_24 : decode prog_7_method_9_code 24 = .ok (.lload_n 3, 1) := by decide +kernel
theorem d_M_uniteTexts_25 : decode prog_7_method_9_code 25 = .ok (.iload 8, 2) := by decide +kernel
theorem d_M_uniteTexts_27 : decode prog_7_method_9_code 27 = .ok (.invokevirtual 82, 3) := by decide +kernel
theorem d_M_uniteTexts_30 : decode prog_7_method_9_code 30 = .ok (.iastore, 1) := by decide +kernel
theorem d_M_uniteTexts_31 : decode prog_7_method_9_code 31 = .ok (.aload_n 0, 1) := by decide +kernel
theorem d_M_uniteTexts_32 : decode prog_7_method_9_code 32 = .ok (.getfield 50, 3) := by decide +kernel
theorem d_M_uniteTexts_35 : decode prog_7_method_9_code 35 = .ok (.iload 8, 2) := by decide +kernel
theorem d_M_uniteTexts_37 : decode prog_7_method_9_code 37 = .ok (.aload_n 0, 1) := by decide +kernel
theorem d_M_uniteTexts_38 : decode prog_7_method_9_code 38 = .ok (.lload_n 1, 1) := by decide +kernel
theorem d_M_uniteTexts_39 : decode prog_7_method_9_code 39 = .ok (.lload 5, 2) := by decide +kernel
theorem d_M_uniteTexts_41 : decode prog_7_method_9_code 41 = .ok (.iload 8, 2) := by decide +kernel
theorem d_M_uniteTexts_43 : decode prog_7_method_9_code 43 = .ok (.invokevirtual 82, 3) := by decide +kernel
theorem d_M_uniteTexts_46 : decode prog_7_method_9_code 46 = .ok (.iastore, 1) := by decide +kernel
theorem d_M_uniteTexts_47 : decode prog_7_method_9_code 47 = .ok (.iinc 8 1, 3) := by decide +kernel
theorem d_M_uniteTexts_50 : decode prog_7_method_9_code 50 = .ok (.goto (-41), 3) := by decide +kernel
theorem d_M_uniteTexts_53 : decode prog_7_method_9_code 53 = .ok (.iconst 0, 1) := by decide +kernel
theorem d_M_uniteTexts_54 : decode prog_7_method_9_code 54 = .ok (.istore 8, 2) := by decide +kernel
theorem d_M_uniteTexts_56 : decode prog_7_method_9_code 56 = .ok (.iconst 0, 1) := by decide +kernel
theorem d_M_uniteTexts_57 : decode prog_7_method_9_code 57 = .ok (.istore 9, 2) := by decide +kernel
theorem d_M_uniteTexts_59 : decode prog_7_method_9_code 59 = .ok (.iconst 0, 1) := by decide +kernel
theorem d_M_uniteTexts_60 : decode prog_7_method_9_code 60 = .ok (.istore 10, 2) := by decide +kernel
theorem d_M_uniteTexts_62 : decode prog_7_method_9_code 62 = .ok (.aload_n 0, 1) := by decide +kernel
theorem d_M_uniteTexts_63 : decode prog_7_method_9_code 63 = .ok (.iconst 0, 1) := by decide +kernel
theorem d_M_uniteTexts_64 : decode prog_7_method_9_code 64 = .ok (.putfield 78, 3) := by decide +kernel
theorem d_M_uniteTexts_67 : decode prog_7_method_9_code 67 = .ok (.iconst 0, 1) := by decide +kernel
theorem d_M_uniteTexts_68 : decode prog_7_method_9_code 68 = .ok (.istore 11, 2) := by decide +kernel
theorem d_M_uniteTexts_70 : decode prog_7_method_9_code 70 = .ok (.iload 11, 2) := by decide +kernel
theorem d_M_uniteTexts_72 : decode prog_7_method_9_code 72 = .ok (.iload 7, 2) := by decide +kernel
theorem d_M_uniteTexts_74 : decode prog_7_method_9_code 74 = .ok (.if_icmp .gt 204, 3) := by decide +kernel
theorem d_M_uniteTexts_77 : decode prog_7_method_9_code 77 = .ok (.iload 11, 2) := by decide +kernel
theorem d_M_uniteTexts_79 : decode prog_7_method_9_code 79 = .ok (.iload 7, 2) := by decide +kernel
theorem d_M_uniteTexts_81 : decode prog_7_method_9_code 81 = .ok (.if_icmp .ne 7, 3) := by decide +kernel
theorem d_M_uniteTexts_84 : decode prog_7_method_9_code 84 = .ok (.iconst 1, 1) := by decide +kernel
theorem d_M_uniteTexts_85 : decode prog_7_method_9_code 85 = .ok (.goto 4, 3) := by decide +kernel
theorem d_M_uniteTexts_88 : decode prog_7_method_9_code 88 = .ok (.iconst 0, 1) := by decide +kernel
theorem d_M_uniteTexts_89 : decode prog_7_method_9_code 89 = .ok (.istore 12, 2) := by decide +kernel
theorem d_M_uniteTexts_91 : decode prog_7_method_9_code 91 = .ok (.iload 12, 2) := by decide +kernel
theorem d_M_uniteTexts_93 : decode prog_7_method_9_code 93 = .ok (.ifCond .ne 23, 3) := by decide +kernel
theorem d_M_uniteTexts_96 : decode prog_7_method_9_code 96 = .ok (.aload_n 0, 1) := by decide +kernel
theorem d_M_uniteTexts_97 : decode prog_7_method_9_code 97 = .ok (.getfield 47, 3) := by decide +kernel
theorem d_M_uniteTexts_100 : decode prog_7_method_9_code 100 = .ok (.iload 11, 2) := by decide +kernel
theorem d_M_uniteTexts_102 : decode prog_7_method_9_code 102 = .ok (.iaload, 1) := by decide +kernel
theorem d_M_uniteTexts_103 : decode prog_7_method_9_code 103 = .ok (.ifCond .lt 169, 3) := by decide +kernel
theorem d_M_uniteTexts_106 : decode prog_7_method_9_code 106 = .ok (.aload_n 0, 1) := by decide +kernel
theorem d_M_uniteTexts_107 : decode prog_7_method_9_code 107 = .ok (.getfield 50, 3) := by decide +kernel
theorem d_M_uniteTexts_110 : decode prog_7_method_9_code 110 = .ok (.iload 11, 2) := by decide +kernel
theorem d_M_uniteTexts_112 : decode prog_7_method_9_code 112 = .ok (.iaload, 1) := by decide +kernel
theorem d_M_uniteTexts_113 : decode prog_7_method_9_code 113 = .ok (.ifCond .lt 159, 3) := by decide +kernel
theorem d_M_uniteTexts_116 : decode prog_7_method_9_code 116 = .ok (.iload 12, 2) := by decide +kernel
theorem d_M_uniteTexts_118 : decode prog_7_method_9_code 118 = .ok (.ifCond .eq 10, 3) := by decide +kernel
theorem d_M_uniteTexts_121 : decode prog_7_method_9_code 121 = .ok (.lload_n 3, 1) := by decide +kernel
theorem d_M_uniteTexts_122 : decode prog_7_method_9_code 122 = .ok (.invokestatic 66, 3) := by decide +kernel
theorem d_M_uniteTexts_125 : decode prog_7_method_9_code 125 = .ok (.goto 10, 3) := by decide +kernel
theorem d_M_uniteTexts_128 : decode prog_7_method_9_code 128 = .ok (.aload_n 0, 1) := by decide +kernel
theorem d_M_uniteTexts_129 : decode prog_7_method_9_code 129 = .ok (.getfield 47, 3) := by decide +kernel
theorem d_M_uniteTexts_132 : decode prog_7_method_9_code 132 = .ok (.iload 11, 2) := by decide +kernel
theorem d_M_uniteTexts_134 : decode prog_7_method_9_code 134 = .ok (.iaload, 1) := by decide +kernel
theorem d_M_uniteTexts_135 : decode prog_7_method_9_code 135 = .ok (.istore 13, 2) := by decide +kernel
theorem d_M_uniteTexts_137 : decode prog_7_method_9_code 137 = .ok (.iload 12, 2) := by decide +kernel
theorem d_M_uniteTexts_139 : decode prog_7_method_9_code 139 = .ok (.ifCond .eq 11, 3) := by decide +kernel
theorem d_M_uniteTexts_142 : decode prog_7_method_9_code 142 = .ok (.lload 5, 2) := by decide +kernel
theorem d_M_uniteTexts_144 : decode prog_7_method_9_code 144 = .ok (.invokestatic 66, 3) := by decide +kernel
theorem d_M_uniteTexts_147 : decode prog_7_method_9_code 147 = .ok (.goto 10, 3) := by decide +kernel
theorem d_M_uniteTexts_150 : decode prog_7_method_9_code 150 = .ok (.aload_n 0, 1) := by decide +kernel
theorem d_M_uniteTexts_151 : decode prog_7_method_9_code 151 = .ok (.getfield 50, 3) := by decide +kernel
theorem d_M_uniteTexts_154 : decode prog_7_method_9_code 154 = .ok (.iload 11, 2) := by decide +kernel
theorem d_M_uniteTexts_156 : decode prog_7_method_9_code 156 = .ok (.iaload, 1) := by decide +kernel
theorem d_M_uniteTexts_157 : decode prog_7_method_9_code 157 = .ok (.istore 14, 2) := by decide +kernel
theorem d_M_uniteTexts_159 : decode prog_7_method_9_code 159 = .ok (.lload_n 1, 1) := by decide +kernel
theorem d_M_uniteTexts_160 : decode prog_7_method_9_code 160 = .ok (.iload 8, 2) := by decide +kernel
theorem d_M_uniteTexts_162 : decode prog_7_method_9_code 162 = .ok (.iload 11, 2) := by decide +kernel
theorem d_M_uniteTexts_164 : decode prog_7_method_9_code 164 = .ok (.lload_n 3, 1) := by decide +kernel
theorem d_M_uniteTexts_165 : decode prog_7_method_9_code 165 = .ok (.iload 9, 2) := by decide +kernel
theorem d_M_uniteTexts_167 : decode prog_7_method_9_code 167 = .ok (.iload 13, 2) := by decide +kernel
theorem d_M_uniteTexts_169 : decode prog_7_method_9_code 169 = .ok (.invokestatic 86, 3) := by decide +kernel
theorem d_M_uniteTexts_172 : decode prog_7_method_9_code 172 = .ok (.ifCond .eq 16, 3) := by decide +kernel
theorem d_M_uniteTexts_175 : decode prog_7_method_9_code 175 = .ok (.aload_n 0, 1) := by decide +kernel
theorem d_M_uniteTexts_176 : decode prog_7_method_9_code 176 = .ok (.lload 5, 2) := by decide +kernel
theorem d_M_uniteTexts_178 : decode prog_7_method_9_code 178 = .ok (.iload 10, 2) := by decide +kernel
theorem d_M_uniteTexts_180 : decode prog_7_method_9_code 180 = .ok (.iload 14, 2) := by decide +kernel
theorem d_M_uniteTexts_182 : decode prog_7_method_9_code 182 = .ok (.invokevirtual 90, 3) := by decide +kernel
theorem d_M_uniteTexts_185 : decode prog_7_method_9_code 185 = .ok (.goto 53, 3) := by decide +kernel
theorem d_M_uniteTexts_188 : decode prog_7_method_9_code 188 = .ok (.lload_n 1, 1) := by decide +kernel
theorem d_M_uniteTexts_189 : decode prog_7_method_9_code 189 = .ok (.iload 8, 2) := by decide +kernel
theorem d_M_uniteTexts_191 : decode prog_7_method_9_code 191 = .ok (.iload 11, 2) := by decide +kernel
theorem d_M_uniteTexts_193 : decode prog_7_method_9_code 193 = .ok (.lload 5, 2) := by decide +kernel
theorem d_M_uniteTexts_195 : decode prog_7_method_9_code 195 = .ok (.iload 10, 2) := by decide +kernel
theorem d_M_uniteTexts_197 : decode prog_7_method_9_code 197 = .ok (.iload 14, 2) := by decide +kernel
theorem d_M_uniteTexts_199 : decode prog_7_method_9_code 199 = .ok (.invokestatic 86, 3) := by decide +kernel
theorem d_M_uniteTexts_202 : decode prog_7_method_9_code 202 = .ok (.ifCond .ne 20, 3) := by decide +kernel
theorem d_M_uniteTexts_205 : decode prog_7_method_9_code 205 = .ok (.lload_n 3, 1) := by decide +kernel
theorem d_M_uniteTexts_206 : decode prog_7_method_9_code 206 = .ok (.iload 9, 2) := by decide +kernel
theorem d_M_uniteTexts_208 : decode prog_7_method_9_code 208 = .ok (.iload 13, 2) := by decide +kernel
theorem d_M_uniteTexts_210 : decode prog_7_method_9_code 210 = .ok (.lload 5, 2) := by decide +kernel
theorem d_M_uniteTexts_212 : decode prog_7_method_9_code 212 = .ok (.iload 10, 2) := by decide +kernel
theorem d_M_uniteTexts_214 : decode prog_7_method_9_code 214 = .ok (.iload 14, 2) := by decide +kernel
theorem d_M_uniteTexts_216 : decode prog_7_method_9_code 216 = .ok (.invokestatic 86, 3) := by decide +kernel
theorem d_M_uniteTexts_219 : decode prog_7_method_9_code 219 = .ok (.ifCond .eq 15, 3) := by decide +kernel
theorem d_M_uniteTexts_222 : decode prog_7_method_9_code 222 = .ok (.aload_n 0, 1) := by decide +kernel
theorem d_M_uniteTexts_223 : decode prog_7_method_9_code 223 = .ok (.lload_n 3, 1) := by decide +kernel
theorem d_M_uniteTexts_224 : decode prog_7_method_9_code 224 = .ok (.iload 9, 2) := by decide +kernel
theorem d_M_uniteTexts_226 : decode prog_7_method_9_code 226 = .ok (.iload 13, 2) := by decide +kernel
theorem d_M_uniteTexts_228 : decode prog_7_method_9_code 228 = .ok (.invokevirtual 90, 3) := by decide +kernel
theorem d_M_uniteTexts_231 : decode prog_7_method_9_code 231 = .ok (.goto 7, 3) := by decide +kernel
theorem d_M_uniteTexts_234 : decode prog_7_method_9_code 234 = .ok (.ldc2_w 94, 3) := by decide +kernel
theorem d_M_uniteTexts_237 : decode prog_7_method_9_code 237 = .ok (.lreturn, 1) := by decide +kernel
theorem d_M_uniteTexts_238 : decode prog_7_method_9_code 238 = .ok (.iload 12, 2) := by decide +kernel
theorem d_M_uniteTexts_240 : decode prog_7_method_9_code 240 = .ok (.ifCond .ne 14, 3) := by decide +kernel
theorem d_M_uniteTexts_243 : decode prog_7_method_9_code 243 = .ok (.aload_n 0, 1) := by decide +kernel
theorem d_M_uniteTexts_244 : decode prog_7_method_9_code 244 = .ok (.lload_n 1, 1) := by decide +kernel
theorem d_M_uniteTexts_245 : decode prog_7_method_9_code 245 = .ok (.iload 11, 2) := by decide +kernel
theorem d_M_uniteTexts_247 : decode prog_7_method_9_code 247 = .ok (.iload 11, 2) := by decide +kernel
theorem d_M_uniteTexts_249 : decode prog_7_method_9_code 249 = .ok (.iconst 1, 1) := by decide +kernel
theorem d_M_uniteTexts_250 : decode prog_7_method_9_code 250 = .ok (.iadd, 1) := by decide +kernel
theorem d_M_uniteTexts_251 : decode prog_7_method_9_code 251 = .ok (.invokevirtual 90, 3) := by decide +kernel
theorem d_M_uniteTexts_254 : decode prog_7_method_9_code 254 = .ok (.iload 11, 2) := by decide +kernel
theorem d_M_uniteTexts_256 : decode prog_7_method_9_code 256 = .ok (.iconst 1, 1) := by decide +kernel
theorem d_M_uniteTexts_257 : decode prog_7_method_9_code 257 = .ok (.iadd, 1) := by decide +kernel
theorem d_M_uniteTexts_258 : decode prog_7_method_9_code 258 = .ok (.istore 8, 2) := by decide +kernel
theorem d_M_uniteTexts_260 : decode prog_7_method_9_code 260 = .ok (.iload 13, 2) := by decide +kernel
theorem d_M_uniteTexts_262 : decode prog_7_method_9_code 262 = .ok (.iconst 1, 1) := by decide +kernel
theorem d_M_uniteTexts_263 : decode prog_7_method_9_code 263 = .ok (.iadd, 1) := by decide +kernel
theorem d_M_uniteTexts_264 : decode prog_7_method_9_code 264 = .ok (.istore 9, 2) := by decide +kernel
theorem d_M_uniteTexts_266 : decode prog_7_method_9_code 266 = .ok (.iload 14, 2) := by decide +kernel
theorem d_M_uniteTexts_268 : decode prog_7_method_9_code 268 = .ok (.iconst 1, 1) := by decide +kernel
theorem d_M_uniteTexts_269 : decode prog_7_method_9_code 269 = .ok (.iadd, 1) := by decide +kernel
theorem d_M_uniteTexts_270 : decode prog_7_method_9_code 270 = .ok (.istore 10, 2) := by decide +kernel
theorem d_M_uniteTexts_272 : decode prog_7_method_9_code 272 = .ok (.iinc 11 1, 3) := by decide +kernel
theorem d_M_uniteTexts_275 : decode prog_7_method_9_code 275 = .ok (.goto (-205), 3) := by decide +kernel
theorem d_M_uniteTexts_278 : decode prog_7_method_9_code 278 = .ok (.aload_n 0, 1) := by decide +kernel
theorem d_M_uniteTexts_279 : decode prog_7_method_9_code 279 = .ok (.getfield 78, 3) := by decide +kernel
theorem d_M_uniteTexts_282 : decode prog_7_method_9_code 282 = .ok (.bipush 8, 2) := by decide +kernel
theorem d_M_uniteTexts_284 : decode prog_7_method_9_code 284 = .ok (.if_icmp .le 7, 3) := by decide +kernel
theorem d_M_uniteTexts_287 : decode prog_7_method_9_code 287 = .ok (.ldc2_w 94, 3) := by decide +kernel
theorem d_M_uniteTexts_290 : decode prog_7_method_9_code 290 = .ok (.lreturn, 1) := by decide +kernel
theorem d_M_uniteTexts_291 : decode prog_7_method_9_code 291 = .ok (.aload_n 0, 1) := by decide +kernel
theorem d_M_uniteTexts_292 : decode prog_7_method_9_code 292 = .ok (.getfield 78, 3) := by decide +kernel
theorem d_M_uniteTexts_295 : decode prog_7_method_9_code 295 = .ok (.i2l, 1) := by decide +kernel
theorem d_M_uniteTexts_296 : decode prog_7_method_9_code 296 = .ok (.bipush 32, 2) := by decide +kernel
theorem d_M_uniteTexts_298 : decode prog_7_method_9_code 298 = .ok (.lshl, 1) := by decide +kernel
theorem d_M_uniteTexts_299 : decode prog_7_method_9_code 299 = .ok (.lstore 11, 2) := by decide +kernel
theorem d_M_uniteTexts_301 : decode prog_7_method_9_code 301 = .ok (.iconst 0, 1) := by decide +kernel
theorem d_M_uniteTexts_302 : decode prog_7_method_9_code 302 = .ok (.istore 13, 2) := by decide +kernel
theorem d_M_uniteTexts_304 : decode prog_7_method_9_code 304 = .ok (.iload 13, 2) := by decide +kernel
theorem d_M_uniteTexts_306 : decode prog_7_method_9_code 306 = .ok (.aload_n 0, 1) := by decide +kernel
theorem d_M_uniteTexts_307 : decode prog_7_method_9_code 307 = .ok (.getfield 78, 3) := by decide +kernel
theorem d_M_uniteTexts_310 : decode prog_7_method_9_code 310 = .ok (.if_icmp .ge 27, 3) := by decide +kernel
theorem d_M_uniteTexts_313 : decode prog_7_method_9_code 313 = .ok (.lload 11, 2) := by decide +kernel
theorem d_M_uniteTexts_315 : decode prog_7_method_9_code 315 = .ok (.aload_n 0, 1) := by decide +kernel
theorem d_M_uniteTexts_316 : decode prog_7_method_9_code 316 = .ok (.getfield 56, 3) := by decide +kernel
theorem d_M_uniteTexts_319 : decode prog_7_method_9_code 319 = .ok (.iload 13, 2) := by decide +kernel
theorem d_M_uniteTexts_321 : decode prog_7_method_9_code 321 = .ok (.iaload, 1) := by decide +kernel
theorem d_M_uniteTexts_322 : decode prog_7_method_9_code 322 = .ok (.i2l, 1) := by decide +kernel
theorem d_M_uniteTexts_323 : decode prog_7_method_9_code 323 = .ok (.iconst 4, 1) := by decide +kernel
theorem d_M_uniteTexts_324 : decode prog_7_method_9_code 324 = .ok (.iload 13, 2) := by decide +kernel
theorem d_M_uniteTexts_326 : decode prog_7_method_9_code 326 = .ok (.imul, 1) := by decide +kernel
theorem d_M_uniteTexts_327 : decode prog_7_method_9_code 327 = .ok (.lshl, 1) := by decide +kernel
theorem d_M_uniteTexts_328 : decode prog_7_method_9_code 328 = .ok (.lor, 1) := by decide +kernel
theorem d_M_uniteTexts_329 : decode prog_7_method_9_code 329 = .ok (.lstore 11, 2) := by decide +kernel
theorem d_M_uniteTexts_331 : decode prog_7_method_9_code 331 = .ok (.iinc 13 1, 3) := by decide +kernel
theorem d_M_uniteTexts_334 : decode prog_7_method_9_code 334 = .ok (.goto (-30), 3) := by decide +kernel
theorem d_M_uniteTexts_337 : decode prog_7_method_9_code 337 = .ok (.lload 11, 2) := by decide +kernel
theorem d_M_uniteTexts_339 : decode prog_7_method_9_code 339 = .ok (.lreturn, 1) := by decide +kernel
theorem d_M_size_0 : decode prog_7_method_3_code 0 = .ok (.lload_n 0, 1) := by decide +kernel
theorem d_M_size_1 : decode prog_7_method_3_code 1 = .ok (.lconst 0, 1) := by decide +kernel
theorem d_M_size_2 : decode prog_7_method_3_code 2 = .ok (.lcmp, 1) := by decide +kernel
theorem d_M_size_3 : decode prog_7_method_3_code 3 = .ok (.ifCond .ge 7, 3) := by decide +kernel
theorem d_M_size_6 : decode prog_7_method_3_code 6 = .ok (.iconst 0, 1) := by decide +kernel
theorem d_M_size_7 : decode prog_7_method_3_code 7 = .ok (.goto 8, 3) := by decide +kernel
theorem d_M_size_10 : decode prog_7_method_3_code 10 = .ok (.lload_n 0, 1) := by decide +kernel
theorem d_M_size_11 : decode prog_7_method_3_code 11 = .ok (.bipush 32, 2) := by decide +kernel
theorem d_M_size_13 : decode prog_7_method_3_code 13 = .ok (.lshr, 1) := by decide +kernel
theorem d_M_size_14 : decode prog_7_method_3_code 14 = .ok (.l2i, 1) := by decide +kernel
theorem d_M_size_15 : decode prog_7_method_3_code 15 = .ok (.ireturn, 1) := by decide +kernel
theorem d_M_matched_0 : decode prog_7_method_6_code 0 = .ok (.iconst 0, 1) := by decide +kernel
theorem d_M_matched_1 : decode prog_7_method_6_code 1 = .ok (.istore 6, 2) := by decide +kernel
theorem d_M_matched_3 : decode prog_7_method_6_code 3 = .ok (.iconst 0, 1) := by decide +kernel
theorem d_M_matched_4 : decode prog_7_method_6_code 4 = .ok (.istore 7, 2) := by decide +kernel
theorem d_M_matched_6 : decode prog_7_method_6_code 6 = .ok (.aload_n 0, 1) := by decide +kernel
theorem d_M_matched_7 : decode prog_7_method_6_code 7 = .ok (.lload_n 1, 1) := by decide +kernel
theorem d_M_matched_8 : decode prog_7_method_6_code 8 = .ok (.lload_n 3, 1) := by decide +kernel
theorem d_M_matched_9 : decode prog_7_method_6_code 9 = .ok (.invokevirtual 74, 3) := by decide +kernel
theorem d_M_matched_12 : decode prog_7_method_6_code 12 = .ok (.iload 6, 2) := by decide +kernel
theorem d_M_matched_14 : decode prog_7_method_6_code 14 = .ok (.lload_n 1, 1) := by decide +kernel
theorem d_M_matched_15 : decode prog_7_method_6_code 15 = .ok (.invokestatic 66, 3) := by decide +kernel
theorem d_M_matched_18 : decode prog_7_method_6_code 18 = .ok (.if_icmp .ge 91, 3) := by decide +kernel
theorem d_M_matched_21 : decode prog_7_method_6_code 21 = .ok (.iload 7, 2) := by decide +kernel
theorem d_M_matched_23 : decode prog_7_method_6_code 23 = .ok (.lload_n 3, 1) := by decide +kernel
theorem d_M_matched_24 : decode prog_7_method_6_code 24 = .ok (.invokestatic 66, 3) := by decide +kernel
theorem d_M_matched_27 : decode prog_7_method_6_code 27 = .ok (.if_icmp .ge 82, 3) := by decide +kernel
theorem d_M_matched_30 : decode prog_7_method_6_code 30 = .ok (.lload_n 1, 1) := by decide +kernel
theorem d_M_matched_31 : decode prog_7_method_6_code 31 = .ok (.iload 6, 2) := by decide +kernel
theorem d_M_matched_33 : decode prog_7_method_6_code 33 = .ok (.invokestatic 70, 3) := by decide +kernel
theorem d_M_matched_36 : decode prog_7_method_6_code 36 = .ok (.lload_n 3, 1) := by decide +kernel
theorem d_M_matched_37 : decode prog_7_method_6_code 37 = .ok (.iload 7, 2) := by decide +kernel
theorem d_M_matched_39 : decode prog_7_method_6_code 39 = .ok (.invokestatic 70, 3) := by decide +kernel
theorem d_M_matched_42 : decode prog_7_method_6_code 42 = .ok (.if_icmp .ne 22, 3) := by decide +kernel
theorem d_M_matched_45 : decode prog_7_method_6_code 45 = .ok (.iload 6, 2) := by decide +kernel
theorem d_M_matched_47 : decode prog_7_method_6_code 47 = .ok (.iload 5, 2) := by decide +kernel
theorem d_M_matched_49 : decode prog_7_method_6_code 49 = .ok (.if_icmp .ne 6, 3) := by decide +kernel
theorem d_M_matched_52 : decode prog_7_method_6_code 52 = .ok (.iload 7, 2) := by decide +kernel
theorem d_M_matched_54 : decode prog_7_method_6_code 54 = .ok (.ireturn, 1) := by decide +kernel
theorem d_M_matched_55 : decode prog_7_method_6_code 55 = .ok (.iinc 6 1, 3) := by decide +kernel
theorem d_M_matched_58 : decode prog_7_method_6_code 58 = .ok (.iinc 7 1, 3) := by decide +kernel
theorem d_M_matched_61 : decode prog_7_method_6_code 61 = .ok (.goto (-49), 3) := by decide +kernel
theorem d_M_matched_64 : decode prog_7_method_6_code 64 = .ok (.aload_n 0, 1) := by decide +kernel
theorem d_M_matched_65 : decode prog_7_method_6_code 65 = .ok (.getfield 53, 3) := by decide +kernel
theorem d_M_matched_68 : decode prog_7_method_6_code 68 = .ok (.bipush 9, 2) := by decide +kernel
theorem d_M_matched_70 : decode prog_7_method_6_code 70 = .ok (.iload 6, 2) := by decide +kernel
theorem d_M_matched_72 : decode prog_7_method_6_code 72 = .ok (.iconst 1, 1) := by decide +kernel
theorem d_M_matched_73 : decode prog_7_method_6_code 73 = .ok (.iadd, 1) := by decide +kernel
theorem d_M_matched_74 : decode prog_7_method_6_code 74 = .ok (.imul, 1) := by decide +kernel
theorem d_M_matched_75 : decode prog_7_method_6_code 75 = .ok (.iload 7, 2) := by decide +kernel
theorem d_M_matched_77 : decode prog_7_method_6_code 77 = .ok (.iadd, 1) := by decide +kernel
theorem d_M_matched_78 : decode prog_7_method_6_code 78 = .ok (.iaload, 1) := by decide +kernel
theorem d_M_matched_79 : decode prog_7_method_6_code 79 = .ok (.aload_n 0, 1) := by decide +kernel
theorem d_M_matched_80 : decode prog_7_method_6_code 80 = .ok (.getfield 53, 3) := by decide +kernel
theorem d_M_matched_83 : decode prog_7_method_6_code 83 = .ok (.bipush 9, 2) := by decide +kernel
theorem d_M_matched_85 : decode prog_7_method_6_code 85 = .ok (.iload 6, 2) := by decide +kernel
theorem d_M_matched_87 : decode prog_7_method_6_code 87 = .ok (.imul, 1) := by decide +kernel
theorem d_M_matched_88 : decode prog_7_method_6_code 88 = .ok (.iload 7, 2) := by decide +kernel
theorem d_M_matched_90 : decode prog_7_method_6_code 90 = .ok (.iadd, 1) := by decide +kernel
theorem d_M_matched_91 : decode prog_7_method_6_code 91 = .ok (.iconst 1, 1) := by decide +kernel
theorem d_M_matched_92 : decode prog_7_method_6_code 92 = .ok (.iadd, 1) := by decide +kernel
theorem d_M_matched_93 : decode prog_7_method_6_code 93 = .ok (.iaload, 1) := by decide +kernel
theorem d_M_matched_94 : decode prog_7_method_6_code 94 = .ok (.if_icmp .lt 9, 3) := by decide +kernel
theorem d_M_matched_97 : decode prog_7_method_6_code 97 = .ok (.iinc 6 1, 3) := by decide +kernel
theorem d_M_matched_100 : decode prog_7_method_6_code 100 = .ok (.goto (-88), 3) := by decide +kernel
theorem d_M_matched_103 : decode prog_7_method_6_code 103 = .ok (.iinc 7 1, 3) := by decide +kernel
theorem d_M_matched_106 : decode prog_7_method_6_code 106 = .ok (.goto (-94), 3) := by decide +kernel
theorem d_M_matched_109 : decode prog_7_method_6_code 109 = .ok (.iconst (-1), 1) := by decide +kernel
theorem d_M_matched_110 : decode prog_7_method_6_code 110 = .ok (.ireturn, 1) := by decide +kernel
theorem d_M_subsequences_0 : decode prog_7_method_5_code 0 = .ok (.iconst 0, 1) := by decide +kernel
theorem d_M_subsequences_1 : decode prog_7_method_5_code 1 = .ok (.istore 5, 2) := by decide +kernel
theorem d_M_subsequences_3 : decode prog_7_method_5_code 3 = .ok (.iload 5, 2) := by decide +kernel
theorem d_M_subsequences_5 : decode prog_7_method_5_code 5 = .ok (.bipush 81, 2) := by decide +kernel
theorem d_M_subsequences_7 : decode prog_7_method_5_code 7 = .ok (.if_icmp .ge 17, 3) := by decide +kernel
theorem d_M_subsequences_10 : decode prog_7_method_5_code 10 = .ok (.aload_n 0, 1) := by decide +kernel
theorem d_M_subsequences_11 : decode prog_7_method_5_code 11 = .ok (.getfield 53, 3) := by decide +kernel
theorem d_M_subsequences_14 : decode prog_7_method_5_code 14 = .ok (.iload 5, 2) := by decide +kernel
theorem d_M_subsequences_16 : decode prog_7_method_5_code 16 = .ok (.iconst 0, 1) := by decide +kernel
theorem d_M_subsequences_17 : decode prog_7_method_5_code 17 = .ok (.iastore, 1) := by decide +kernel
theorem d_M_subsequences_18 : decode prog_7_method_5_code 18 = .ok (.iinc 5 1, 3) := by decide +kernel
theorem d_M_subsequences_21 : decode prog_7_method_5_code 21 = .ok (.goto (-18), 3) := by decide +kernel
theorem d_M_subsequences_24 : decode prog_7_method_5_code 24 = .ok (.lload_n 1, 1) := by decide +kernel
theorem d_M_subsequences_25 : decode prog_7_method_5_code 25 = .ok (.invokestatic 66, 3) := by decide +kernel
theorem d_M_subsequences_28 : decode prog_7_method_5_code 28 = .ok (.iconst 1, 1) := by decide +kernel
theorem d_M_subsequences_29 : decode prog_7_method_5_code 29 = .ok (.isub, 1) := by decide +kernel
theorem d_M_subsequences_30 : decode prog_7_method_5_code 30 = .ok (.istore 5, 2) := by decide +kernel
theorem d_M_subsequences_32 : decode prog_7_method_5_code 32 = .ok (.iload 5, 2) := by decide +kernel
theorem d_M_subsequences_34 : decode prog_7_method_5_code 34 = .ok (.ifCond .lt 130, 3) := by decide +kernel
theorem d_M_subsequences_37 : decode prog_7_method_5_code 37 = .ok (.lload_n 3, 1) := by decide +kernel
theorem d_M_subsequences_38 : decode prog_7_method_5_code 38 = .ok (.invokestatic 66, 3) := by decide +kernel
theorem d_M_subsequences_41 : decode prog_7_method_5_code 41 = .ok (.iconst 1, 1) := by decide +kernel
theorem d_M_subsequences_42 : decode prog_7_method_5_code 42 = .ok (.isub, 1) := by decide +kernel
theorem d_M_subsequences_43 : decode prog_7_method_5_code 43 = .ok (.istore 6, 2) := by decide +kernel
theorem d_M_subsequences_45 : decode prog_7_method_5_code 45 = .ok (.iload 6, 2) := by decide +kernel
theorem d_M_subsequences_47 : decode prog_7_method_5_code 47 = .ok (.ifCond .lt 111, 3) := by decide +kernel
theorem d_M_subsequences_50 : decode prog_7_method_5_code 50 = .ok (.aload_n 0, 1) := by decide +kernel
theorem d_M_subsequences_51 : decode prog_7_method_5_code 51 = .ok (.getfield 53, 3) := by decide +kernel
theorem d_M_subsequences_54 : decode prog_7_method_5_code 54 = .ok (.bipush 9, 2) := by decide +kernel
theorem d_M_subsequences_56 : decode prog_7_method_5_code 56 = .ok (.iload 5, 2) := by decide +kernel
theorem d_M_subsequences_58 : decode prog_7_method_5_code 58 = .ok (.iconst 1, 1) := by decide +kernel
theorem d_M_subsequences_59 : decode prog_7_method_5_code 59 = .ok (.iadd, 1) := by decide +kernel
theorem d_M_subsequences_60 : decode prog_7_method_5_code 60 = .ok (.imul, 1) := by decide +kernel
theorem d_M_subsequences_61 : decode prog_7_method_5_code 61 = .ok (.iload 6, 2) := by decide +kernel
theorem d_M_subsequences_63 : decode prog_7_method_5_code 63 = .ok (.iadd, 1) := by decide +kernel
theorem d_M_subsequences_64 : decode prog_7_method_5_code 64 = .ok (.iaload, 1) := by decide +kernel
theorem d_M_subsequences_65 : decode prog_7_method_5_code 65 = .ok (.istore 7, 2) := by decide +kernel
theorem d_M_subsequences_67 : decode prog_7_method_5_code 67 = .ok (.aload_n 0, 1) := by decide +kernel
theorem d_M_subsequences_68 : decode prog_7_method_5_code 68 = .ok (.getfield 53, 3) := by decide +kernel
theorem d_M_subsequences_71 : decode prog_7_method_5_code 71 = .ok (.bipush 9, 2) := by decide +kernel
theorem d_M_subsequences_73 : decode prog_7_method_5_code 73 = .ok (.iload 5, 2) := by decide +kernel
theorem d_M_subsequences_75 : decode prog_7_method_5_code 75 = .ok (.imul, 1) := by decide +kernel
theorem d_M_subsequences_76 : decode prog_7_method_5_code 76 = .ok (.iload 6, 2) := by decide +kernel
theorem d_M_subsequences_78 : decode prog_7_method_5_code 78 = .ok (.iadd, 1) := by decide +kernel
theorem d_M_subsequences_79 : decode prog_7_method_5_code 79 = .ok (.iconst 1, 1) := by decide +kernel
theorem d_M_subsequences_80 : decode prog_7_method_5_code 80 = .ok (.iadd, 1) := by decide +kernel
theorem d_M_subsequences_81 : decode prog_7_method_5_code 81 = .ok (.iaload, 1) := by decide +kernel
theorem d_M_subsequences_82 : decode prog_7_method_5_code 82 = .ok (.istore 8, 2) := by decide +kernel
theorem d_M_subsequences_84 : decode prog_7_method_5_code 84 = .ok (.iload 7, 2) := by decide +kernel
theorem d_M_subsequences_86 : decode prog_7_method_5_code 86 = .ok (.iload 8, 2) := by decide +kernel
theorem d_M_subsequences_88 : decode prog_7_method_5_code 88 = .ok (.if_icmp .le 8, 3) := by decide +kernel
theorem d_M_subsequences_91 : decode prog_7_method_5_code 91 = .ok (.iload 7, 2) := by decide +kernel
theorem d_M_subsequences_93 : decode prog_7_method_5_code 93 = .ok (.goto 5, 3) := by decide +kernel
theorem d_M_subsequences_96 : decode prog_7_method_5_code 96 = .ok (.iload 8, 2) := by decide +kernel
theorem d_M_subsequences_98 : decode prog_7_method_5_code 98 = .ok (.istore 9, 2) := by decide +kernel
theorem d_M_subsequences_100 : decode prog_7_method_5_code 100 = .ok (.aload_n 0, 1) := by decide +kernel
theorem d_M_subsequences_101 : decode prog_7_method_5_code 101 = .ok (.getfield 53, 3) := by decide +kernel
theorem d_M_subsequences_104 : decode prog_7_method_5_code 104 = .ok (.bipush 9, 2) := by decide +kernel
theorem d_M_subsequences_106 : decode prog_7_method_5_code 106 = .ok (.iload 5, 2) := by decide +kernel
theorem d_M_subsequences_108 : decode prog_7_method_5_code 108 = .ok (.imul, 1) := by decide +kernel
theorem d_M_subsequences_109 : decode prog_7_method_5_code 109 = .ok (.iload 6, 2) := by decide +kernel
theorem d_M_subsequences_111 : decode prog_7_method_5_code 111 = .ok (.iadd, 1) := by decide +kernel
theorem d_M_subsequences_112 : decode prog_7_method_5_code 112 = .ok (.lload_n 1, 1) := by decide +kernel
theorem d_M_subsequences_113 : decode prog_7_method_5_code 113 = .ok (.iload 5, 2) := by decide +kernel
theorem d_M_subsequences_115 : decode prog_7_method_5_code 115 = .ok (.invokestatic 70, 3) := by decide +kernel
theorem d_M_subsequences_118 : decode prog_7_method_5_code 118 = .ok (.lload_n 3, 1) := by decide +kernel
theorem d_M_subsequences_119 : decode prog_7_method_5_code 119 = .ok (.iload 6, 2) := by decide +kernel
theorem d_M_subsequences_121 : decode prog_7_method_5_code 121 = .ok (.invokestatic 70, 3) := by decide +kernel
theorem d_M_subsequences_124 : decode prog_7_method_5_code 124 = .ok (.if_icmp .ne 25, 3) := by decide +kernel
theorem d_M_subsequences_127 : decode prog_7_method_5_code 127 = .ok (.iconst 1, 1) := by decide +kernel
theorem d_M_subsequences_128 : decode prog_7_method_5_code 128 = .ok (.aload_n 0, 1) := by decide +kernel
theorem d_M_subsequences_129 : decode prog_7_method_5_code 129 = .ok (.getfield 53, 3) := by decide +kernel
theorem d_M_subsequences_132 : decode prog_7_method_5_code 132 = .ok (.bipush 9, 2) := by decide +kernel
theorem d_M_subsequences_134 : decode prog_7_method_5_code 134 = .ok (.iload 5, 2) := by decide +kernel
theorem d_M_subsequences_136 : decode prog_7_method_5_code 136 = .ok (.iconst 1, 1) := by decide +kernel
theorem d_M_subsequences_137 : decode prog_7_method_5_code 137 = .ok (.iadd, 1) := by decide +kernel
theorem d_M_subsequences_138 : decode prog_7_method_5_code 138 = .ok (.imul, 1) := by decide +kernel
theorem d_M_subsequences_139 : decode prog_7_method_5_code 139 = .ok (.iload 6, 2) := by decide +kernel
theorem d_M_subsequences_141 : decode prog_7_method_5_code 141 = .ok (.iadd, 1) := by decide +kernel
theorem d_M_subsequences_142 : decode prog_7_method_5_code 142 = .ok (.iconst 1, 1) := by decide +kernel
theorem d_M_subsequences_143 : decode prog_7_method_5_code 143 = .ok (.iadd, 1) := by decide +kernel
theorem d_M_subsequences_144 : decode prog_7_method_5_code 144 = .ok (.iaload, 1) := by decide +kernel
theorem d_M_subsequences_145 : decode prog_7_method_5_code 145 = .ok (.iadd, 1) := by decide +kernel
theorem d_M_subsequences_146 : decode prog_7_method_5_code 146 = .ok (.goto 5, 3) := by decide +kernel
theorem d_M_subsequences_149 : decode prog_7_method_5_code 149 = .ok (.iload 9, 2) := by decide +kernel
theorem d_M_subsequences_151 : decode prog_7_method_5_code 151 = .ok (.iastore, 1) := by decide +kernel
theorem d_M_subsequences_152 : decode prog_7_method_5_code 152 = .ok (.iinc 6 (-1), 3) := by decide +kernel
theorem d_M_subsequences_155 : decode prog_7_method_5_code 155 = .ok (.goto (-110), 3) := by decide +kernel
theorem d_M_subsequences_158 : decode prog_7_method_5_code 158 = .ok (.iinc 5 (-1), 3) := by decide +kernel
theorem d_M_subsequences_161 : decode prog_7_method_5_code 161 = .ok (.goto (-129), 3) := by decide +kernel
theorem d_M_subsequences_164 : decode prog_7_method_5_code 164 = .ok (.return_, 1) := by decide +kernel
end
section
/-! Decode rows. (Printed by gen_names.py.) -/
theorem d_M_line_0 : decode prog_7_method_4_code 0 = .ok (.lload_n 0, 1) := by decide +kernel
theorem d_M_line_1 : decode prog_7_method_4_code 1 = .ok (.iconst 4, 1) := by decide +kernel
theorem d_M_line_2 : decode prog_7_method_4_code 2 = .ok (.iload_n 2, 1) := by decide +kernel
theorem d_M_line_3 : decode prog_7_method_4_code 3 = .ok (.imul, 1) := by decide +kernel
theorem d_M_line_4 : decode prog_7_method_4_code 4 = .ok (.lshr, 1) := by decide +kernel
theorem d_M_line_5 : decode prog_7_method_4_code 5 = .ok (.ldc2_w 64, 3) := by decide +kernel
theorem d_M_line_8 : decode prog_7_method_4_code 8 = .ok (.land, 1) := by decide +kernel
theorem d_M_line_9 : decode prog_7_method_4_code 9 = .ok (.l2i, 1) := by decide +kernel
theorem d_M_line_10 : decode prog_7_method_4_code 10 = .ok (.ireturn, 1) := by decide +kernel
theorem d_M_equal_0 : decode prog_7_method_7_code 0 = .ok (.iload_n 3, 1) := by decide +kernel
theorem d_M_equal_1 : decode prog_7_method_7_code 1 = .ok (.iload_n 2, 1) := by decide +kernel
theorem d_M_equal_2 : decode prog_7_method_7_code 2 = .ok (.isub, 1) := by decide +kernel
theorem d_M_equal_3 : decode prog_7_method_7_code 3 = .ok (.iload 7, 2) := by decide +kernel
theorem d_M_equal_5 : decode prog_7_method_7_code 5 = .ok (.iload 6, 2) := by decide +kernel
theorem d_M_equal_7 : decode prog_7_method_7_code 7 = .ok (.isub, 1) := by decide +kernel
theorem d_M_equal_8 : decode prog_7_method_7_code 8 = .ok (.if_icmp .ne 7, 3) := by decide +kernel
theorem d_M_equal_11 : decode prog_7_method_7_code 11 = .ok (.iconst 1, 1) := by decide +kernel
theorem d_M_equal_12 : decode prog_7_method_7_code 12 = .ok (.goto 4, 3) := by decide +kernel
theorem d_M_equal_15 : decode prog_7_method_7_code 15 = .ok (.iconst 0, 1) := by decide +kernel
theorem d_M_equal_16 : decode prog_7_method_7_code 16 = .ok (.istore 8, 2) := by decide +kernel
theorem d_M_equal_18 : decode prog_7_method_7_code 18 = .ok (.iconst 0, 1) := by decide +kernel
theorem d_M_equal_19 : decode prog_7_method_7_code 19 = .ok (.istore 9, 2) := by decide +kernel
theorem d_M_equal_21 : decode prog_7_method_7_code 21 = .ok (.iload 9, 2) := by decide +kernel
theorem d_M_equal_23 : decode prog_7_method_7_code 23 = .ok (.iload_n 3, 1) := by decide +kernel
theorem d_M_equal_24 : decode prog_7_method_7_code 24 = .ok (.iload_n 2, 1) := by decide +kernel
theorem d_M_equal_25 : decode prog_7_method_7_code 25 = .ok (.isub, 1) := by decide +kernel
theorem d_M_equal_26 : decode prog_7_method_7_code 26 = .ok (.if_icmp .ge 42, 3) := by decide +kernel
theorem d_M_equal_29 : decode prog_7_method_7_code 29 = .ok (.iload 8, 2) := by decide +kernel
theorem d_M_equal_31 : decode prog_7_method_7_code 31 = .ok (.ifCond .eq 37, 3) := by decide +kernel
theorem d_M_equal_34 : decode prog_7_method_7_code 34 = .ok (.lload_n 0, 1) := by decide +kernel
theorem d_M_equal_35 : decode prog_7_method_7_code 35 = .ok (.iload_n 2, 1) := by decide +kernel
theorem d_M_equal_36 : decode prog_7_method_7_code 36 = .ok (.iload 9, 2) := by decide +kernel
theorem d_M_equal_38 : decode prog_7_method_7_code 38 = .ok (.iadd, 1) := by decide +kernel
theorem d_M_equal_39 : decode prog_7_method_7_code 39 = .ok (.invokestatic 70, 3) := by decide +kernel
theorem d_M_equal_42 : decode prog_7_method_7_code 42 = .ok (.lload 4, 2) := by decide +kernel
theorem d_M_equal_44 : decode prog_7_method_7_code 44 = .ok (.iload 6, 2) := by decide +kernel
theorem d_M_equal_46 : decode prog_7_method_7_code 46 = .ok (.iload 9, 2) := by decide +kernel
theorem d_M_equal_48 : decode prog_7_method_7_code 48 = .ok (.iadd, 1) := by decide +kernel
theorem d_M_equal_49 : decode prog_7_method_7_code 49 = .ok (.invokestatic 70, 3) := by decide +kernel
theorem d_M_equal_52 : decode prog_7_method_7_code 52 = .ok (.if_icmp .ne 7, 3) := by decide +kernel
theorem d_M_equal_55 : decode prog_7_method_7_code 55 = .ok (.iconst 1, 1) := by decide +kernel
theorem d_M_equal_56 : decode prog_7_method_7_code 56 = .ok (.goto 4, 3) := by decide +kernel
theorem d_M_equal_59 : decode prog_7_method_7_code 59 = .ok (.iconst 0, 1) := by decide +kernel
theorem d_M_equal_60 : decode prog_7_method_7_code 60 = .ok (.istore 8, 2) := by decide +kernel
theorem d_M_equal_62 : decode prog_7_method_7_code 62 = .ok (.iinc 9 1, 3) := by decide +kernel
theorem d_M_equal_65 : decode prog_7_method_7_code 65 = .ok (.goto (-44), 3) := by decide +kernel
theorem d_M_equal_68 : decode prog_7_method_7_code 68 = .ok (.iload 8, 2) := by decide +kernel
theorem d_M_equal_70 : decode prog_7_method_7_code 70 = .ok (.ireturn, 1) := by decide +kernel
theorem d_M_take_0 : decode prog_7_method_8_code 0 = .ok (.iload_n 3, 1) := by decide +kernel
theorem d_M_take_1 : decode prog_7_method_8_code 1 = .ok (.istore 5, 2) := by decide +kernel
theorem d_M_take_3 : decode prog_7_method_8_code 3 = .ok (.iload 5, 2) := by decide +kernel
theorem d_M_take_5 : decode prog_7_method_8_code 5 = .ok (.iload 4, 2) := by decide +kernel
theorem d_M_take_7 : decode prog_7_method_8_code 7 = .ok (.if_icmp .ge 34, 3) := by decide +kernel
theorem d_M_take_10 : decode prog_7_method_8_code 10 = .ok (.aload_n 0, 1) := by decide +kernel
theorem d_M_take_11 : decode prog_7_method_8_code 11 = .ok (.getfield 56, 3) := by decide +kernel
theorem d_M_take_14 : decode prog_7_method_8_code 14 = .ok (.aload_n 0, 1) := by decide +kernel
theorem d_M_take_15 : decode prog_7_method_8_code 15 = .ok (.getfield 78, 3) := by decide +kernel
theorem d_M_take_18 : decode prog_7_method_8_code 18 = .ok (.lload_n 1, 1) := by decide +kernel
theorem d_M_take_19 : decode prog_7_method_8_code 19 = .ok (.iload 5, 2) := by decide +kernel
theorem d_M_take_21 : decode prog_7_method_8_code 21 = .ok (.invokestatic 70, 3) := by decide +kernel
theorem d_M_take_24 : decode prog_7_method_8_code 24 = .ok (.iastore, 1) := by decide +kernel
theorem d_M_take_25 : decode prog_7_method_8_code 25 = .ok (.aload_n 0, 1) := by decide +kernel
theorem d_M_take_26 : decode prog_7_method_8_code 26 = .ok (.dup, 1) := by decide +kernel
theorem d_M_take_27 : decode prog_7_method_8_code 27 = .ok (.getfield 78, 3) := by decide +kernel
theorem d_M_take_30 : decode prog_7_method_8_code 30 = .ok (.iconst 1, 1) := by decide +kernel
theorem d_M_take_31 : decode prog_7_method_8_code 31 = .ok (.iadd, 1) := by decide +kernel
theorem d_M_take_32 : decode prog_7_method_8_code 32 = .ok (.putfield 78, 3) := by decide +kernel
theorem d_M_take_35 : decode prog_7_method_8_code 35 = .ok (.iinc 5 1, 3) := by decide +kernel
theorem d_M_take_38 : decode prog_7_method_8_code 38 = .ok (.goto (-35), 3) := by decide +kernel
theorem d_M_take_41 : decode prog_7_method_8_code 41 = .ok (.return_, 1) := by decide +kernel
theorem d_M_putJoined_0 : decode prog_7_method_21_code 0 = .ok (.iconst 0, 1) := by decide +kernel
theorem d_M_putJoined_1 : decode prog_7_method_21_code 1 = .ok (.istore_n 2, 1) := by decide +kernel
theorem d_M_putJoined_2 : decode prog_7_method_21_code 2 = .ok (.iload_n 2, 1) := by decide +kernel
theorem d_M_putJoined_3 : decode prog_7_method_21_code 3 = .ok (.iconst 4, 1) := by decide +kernel
theorem d_M_putJoined_4 : decode prog_7_method_21_code 4 = .ok (.if_icmp .ge 25, 3) := by decide +kernel
theorem d_M_putJoined_7 : decode prog_7_method_21_code 7 = .ok (.aload_n 0, 1) := by decide +kernel
theorem d_M_putJoined_8 : decode prog_7_method_21_code 8 = .ok (.getfield 7, 3) := by decide +kernel
theorem d_M_putJoined_11 : decode prog_7_method_21_code 11 = .ok (.iconst 4, 1) := by decide +kernel
theorem d_M_putJoined_12 : decode prog_7_method_21_code 12 = .ok (.iload_n 1, 1) := by decide +kernel
theorem d_M_putJoined_13 : decode prog_7_method_21_code 13 = .ok (.imul, 1) := by decide +kernel
theorem d_M_putJoined_14 : decode prog_7_method_21_code 14 = .ok (.iload_n 2, 1) := by decide +kernel
theorem d_M_putJoined_15 : decode prog_7_method_21_code 15 = .ok (.iadd, 1) := by decide +kernel
theorem d_M_putJoined_16 : decode prog_7_method_21_code 16 = .ok (.aload_n 0, 1) := by decide +kernel
theorem d_M_putJoined_17 : decode prog_7_method_21_code 17 = .ok (.getfield 44, 3) := by decide +kernel
theorem d_M_putJoined_20 : decode prog_7_method_21_code 20 = .ok (.iload_n 2, 1) := by decide +kernel
theorem d_M_putJoined_21 : decode prog_7_method_21_code 21 = .ok (.laload, 1) := by decide +kernel
theorem d_M_putJoined_22 : decode prog_7_method_21_code 22 = .ok (.lastore, 1) := by decide +kernel
theorem d_M_putJoined_23 : decode prog_7_method_21_code 23 = .ok (.iinc 2 1, 3) := by decide +kernel
theorem d_M_putJoined_26 : decode prog_7_method_21_code 26 = .ok (.goto (-24), 3) := by decide +kernel
theorem d_M_putJoined_29 : decode prog_7_method_21_code 29 = .ok (.return_, 1) := by decide +kernel
theorem d_M_pick_0 : decode prog_7_method_32_code 0 = .ok (.iload_n 1, 1) := by decide +kernel
theorem d_M_pick_1 : decode prog_7_method_32_code 1 = .ok (.iconst 2, 1) := by decide +kernel
theorem d_M_pick_2 : decode prog_7_method_32_code 2 = .ok (.invokestatic 123, 3) := by decide +kernel
theorem d_M_pick_5 : decode prog_7_method_32_code 5 = .ok (.ifCond .eq 5, 3) := by decide +kernel
theorem d_M_pick_8 : decode prog_7_method_32_code 8 = .ok (.iconst (-1), 1) := by decide +kernel
theorem d_M_pick_9 : decode prog_7_method_32_code 9 = .ok (.ireturn, 1) := by decide +kernel
theorem d_M_pick_10 : decode prog_7_method_32_code 10 = .ok (.aload_n 0, 1) := by decide +kernel
theorem d_M_pick_11 : decode prog_7_method_32_code 11 = .ok (.iload_n 1, 1) := by decide +kernel
theorem d_M_pick_12 : decode prog_7_method_32_code 12 = .ok (.invokevirtual 111, 3) := by decide +kernel
theorem d_M_pick_15 : decode prog_7_method_32_code 15 = .ok (.istore_n 3, 1) := by decide +kernel
theorem d_M_pick_16 : decode prog_7_method_32_code 16 = .ok (.iload_n 2, 1) := by decide +kernel
theorem d_M_pick_17 : decode prog_7_method_32_code 17 = .ok (.aload_n 0, 1) := by decide +kernel
theorem d_M_pick_18 : decode prog_7_method_32_code 18 = .ok (.getfield 104, 3) := by decide +kernel
theorem d_M_pick_21 : decode prog_7_method_32_code 21 = .ok (.invokestatic 123, 3) := by decide +kernel
theorem d_M_pick_24 : decode prog_7_method_32_code 24 = .ok (.ifCond .ne 7, 3) := by decide +kernel
theorem d_M_pick_27 : decode prog_7_method_32_code 27 = .ok (.iload_n 3, 1) := by decide +kernel
theorem d_M_pick_28 : decode prog_7_method_32_code 28 = .ok (.ifCond .ge 6, 3) := by decide +kernel
theorem d_M_pick_31 : decode prog_7_method_32_code 31 = .ok (.bipush (-2), 2) := by decide +kernel
theorem d_M_pick_33 : decode prog_7_method_32_code 33 = .ok (.ireturn, 1) := by decide +kernel
theorem d_M_pick_34 : decode prog_7_method_32_code 34 = .ok (.aload_n 0, 1) := by decide +kernel
theorem d_M_pick_35 : decode prog_7_method_32_code 35 = .ok (.getfield 20, 3) := by decide +kernel
theorem d_M_pick_38 : decode prog_7_method_32_code 38 = .ok (.iload_n 1, 1) := by decide +kernel
theorem d_M_pick_39 : decode prog_7_method_32_code 39 = .ok (.laload, 1) := by decide +kernel
theorem d_M_pick_40 : decode prog_7_method_32_code 40 = .ok (.iload_n 2, 1) := by decide +kernel
theorem d_M_pick_41 : decode prog_7_method_32_code 41 = .ok (.lshr, 1) := by decide +kernel
theorem d_M_pick_42 : decode prog_7_method_32_code 42 = .ok (.lconst 1, 1) := by decide +kernel
theorem d_M_pick_43 : decode prog_7_method_32_code 43 = .ok (.land, 1) := by decide +kernel
theorem d_M_pick_44 : decode prog_7_method_32_code 44 = .ok (.lconst 0, 1) := by decide +kernel
theorem d_M_pick_45 : decode prog_7_method_32_code 45 = .ok (.lcmp, 1) := by decide +kernel
theorem d_M_pick_46 : decode prog_7_method_32_code 46 = .ok (.ifCond .ne 6, 3) := by decide +kernel
theorem d_M_pick_49 : decode prog_7_method_32_code 49 = .ok (.bipush (-2), 2) := by decide +kernel
theorem d_M_pick_51 : decode prog_7_method_32_code 51 = .ok (.ireturn, 1) := by decide +kernel
theorem d_M_pick_52 : decode prog_7_method_32_code 52 = .ok (.aload_n 0, 1) := by decide +kernel
theorem d_M_pick_53 : decode prog_7_method_32_code 53 = .ok (.iload_n 1, 1) := by decide +kernel
theorem d_M_pick_54 : decode prog_7_method_32_code 54 = .ok (.invokevirtual 133, 3) := by decide +kernel
theorem d_M_pick_57 : decode prog_7_method_32_code 57 = .ok (.ifCond .eq 6, 3) := by decide +kernel
theorem d_M_pick_60 : decode prog_7_method_32_code 60 = .ok (.bipush (-3), 2) := by decide +kernel
theorem d_M_pick_62 : decode prog_7_method_32_code 62 = .ok (.ireturn, 1) := by decide +kernel
theorem d_M_pick_63 : decode prog_7_method_32_code 63 = .ok (.aload_n 0, 1) := by decide +kernel
theorem d_M_pick_64 : decode prog_7_method_32_code 64 = .ok (.getfield 17, 3) := by decide +kernel
theorem d_M_pick_67 : decode prog_7_method_32_code 67 = .ok (.iload_n 2, 1) := by decide +kernel
theorem d_M_pick_68 : decode prog_7_method_32_code 68 = .ok (.iaload, 1) := by decide +kernel
theorem d_M_pick_69 : decode prog_7_method_32_code 69 = .ok (.ifCond .lt 6, 3) := by decide +kernel
theorem d_M_pick_72 : decode prog_7_method_32_code 72 = .ok (.bipush (-4), 2) := by decide +kernel
theorem d_M_pick_74 : decode prog_7_method_32_code 74 = .ok (.ireturn, 1) := by decide +kernel
theorem d_M_pick_75 : decode prog_7_method_32_code 75 = .ok (.iconst 0, 1) := by decide +kernel
theorem d_M_pick_76 : decode prog_7_method_32_code 76 = .ok (.istore 4, 2) := by decide +kernel
theorem d_M_pick_78 : decode prog_7_method_32_code 78 = .ok (.iload 4, 2) := by decide +kernel
theorem d_M_pick_80 : decode prog_7_method_32_code 80 = .ok (.iconst 4, 1) := by decide +kernel
theorem d_M_pick_81 : decode prog_7_method_32_code 81 = .ok (.if_icmp .ge 23, 3) := by decide +kernel
theorem d_M_pick_84 : decode prog_7_method_32_code 84 = .ok (.aload_n 0, 1) := by decide +kernel
theorem d_M_pick_85 : decode prog_7_method_32_code 85 = .ok (.getfield 38, 3) := by decide +kernel
theorem d_M_pick_88 : decode prog_7_method_32_code 88 = .ok (.iload 4, 2) := by decide +kernel
theorem d_M_pick_90 : decode prog_7_method_32_code 90 = .ok (.aload_n 0, 1) := by decide +kernel
theorem d_M_pick_91 : decode prog_7_method_32_code 91 = .ok (.iload_n 3, 1) := by decide +kernel
theorem d_M_pick_92 : decode prog_7_method_32_code 92 = .ok (.iload 4, 2) := by decide +kernel
theorem d_M_pick_94 : decode prog_7_method_32_code 94 = .ok (.invokevirtual 115, 3) := by decide +kernel
theorem d_M_pick_97 : decode prog_7_method_32_code 97 = .ok (.lastore, 1) := by decide +kernel
theorem d_M_pick_98 : decode prog_7_method_32_code 98 = .ok (.iinc 4 1, 3) := by decide +kernel
theorem d_M_pick_101 : decode prog_7_method_32_code 101 = .ok (.goto (-23), 3) := by decide +kernel
theorem d_M_pick_104 : decode prog_7_method_32_code 104 = .ok (.aload_n 0, 1) := by decide +kernel
theorem d_M_pick_105 : decode prog_7_method_32_code 105 = .ok (.iload_n 2, 1) := by decide +kernel
theorem d_M_pick_106 : decode prog_7_method_32_code 106 = .ok (.invokevirtual 152, 3) := by decide +kernel
theorem d_M_pick_109 : decode prog_7_method_32_code 109 = .ok (.ifCond .ne 6, 3) := by decide +kernel
theorem d_M_pick_112 : decode prog_7_method_32_code 112 = .ok (.bipush (-5), 2) := by decide +kernel
theorem d_M_pick_114 : decode prog_7_method_32_code 114 = .ok (.ireturn, 1) := by decide +kernel
theorem d_M_pick_115 : decode prog_7_method_32_code 115 = .ok (.aload_n 0, 1) := by decide +kernel
theorem d_M_pick_116 : decode prog_7_method_32_code 116 = .ok (.invokevirtual 155, 3) := by decide +kernel
theorem d_M_pick_119 : decode prog_7_method_32_code 119 = .ok (.ifCond .eq 6, 3) := by decide +kernel
theorem d_M_pick_122 : decode prog_7_method_32_code 122 = .ok (.bipush (-4), 2) := by decide +kernel
theorem d_M_pick_124 : decode prog_7_method_32_code 124 = .ok (.ireturn, 1) := by decide +kernel
theorem d_M_pick_125 : decode prog_7_method_32_code 125 = .ok (.aload_n 0, 1) := by decide +kernel
theorem d_M_pick_126 : decode prog_7_method_32_code 126 = .ok (.getfield 104, 3) := by decide +kernel
theorem d_M_pick_129 : decode prog_7_method_32_code 129 = .ok (.bipush 40, 2) := by decide +kernel
theorem d_M_pick_131 : decode prog_7_method_32_code 131 = .ok (.if_icmp .ne 6, 3) := by decide +kernel
theorem d_M_pick_134 : decode prog_7_method_32_code 134 = .ok (.bipush (-6), 2) := by decide +kernel
theorem d_M_pick_136 : decode prog_7_method_32_code 136 = .ok (.ireturn, 1) := by decide +kernel
theorem d_M_pick_137 : decode prog_7_method_32_code 137 = .ok (.aload_n 0, 1) := by decide +kernel
theorem d_M_pick_138 : decode prog_7_method_32_code 138 = .ok (.iload_n 1, 1) := by decide +kernel
theorem d_M_pick_139 : decode prog_7_method_32_code 139 = .ok (.iload_n 3, 1) := by decide +kernel
theorem d_M_pick_140 : decode prog_7_method_32_code 140 = .ok (.bipush (-2), 2) := by decide +kernel
theorem d_M_pick_142 : decode prog_7_method_32_code 142 = .ok (.invokevirtual 126, 3) := by decide +kernel
theorem d_M_pick_145 : decode prog_7_method_32_code 145 = .ok (.istore 4, 2) := by decide +kernel
theorem d_M_pick_147 : decode prog_7_method_32_code 147 = .ok (.aload_n 0, 1) := by decide +kernel
theorem d_M_pick_148 : decode prog_7_method_32_code 148 = .ok (.iload 4, 2) := by decide +kernel
theorem d_M_pick_150 : decode prog_7_method_32_code 150 = .ok (.invokevirtual 148, 3) := by decide +kernel
theorem d_M_pick_153 : decode prog_7_method_32_code 153 = .ok (.aload_n 0, 1) := by decide +kernel
theorem d_M_pick_154 : decode prog_7_method_32_code 154 = .ok (.iload_n 1, 1) := by decide +kernel
theorem d_M_pick_155 : decode prog_7_method_32_code 155 = .ok (.iload 4, 2) := by decide +kernel
theorem d_M_pick_157 : decode prog_7_method_32_code 157 = .ok (.invokevirtual 137, 3) := by decide +kernel
theorem d_M_pick_160 : decode prog_7_method_32_code 160 = .ok (.ireturn, 1) := by decide +kernel
theorem d_M_again_0 : decode prog_7_method_31_code 0 = .ok (.iconst 0, 1) := by decide +kernel
theorem d_M_again_1 : decode prog_7_method_31_code 1 = .ok (.istore_n 2, 1) := by decide +kernel
theorem d_M_again_2 : decode prog_7_method_31_code 2 = .ok (.iload_n 2, 1) := by decide +kernel
theorem d_M_again_3 : decode prog_7_method_31_code 3 = .ok (.iconst 4, 1) := by decide +kernel
theorem d_M_again_4 : decode prog_7_method_31_code 4 = .ok (.if_icmp .ge 38, 3) := by decide +kernel
theorem d_M_again_7 : decode prog_7_method_31_code 7 = .ok (.aload_n 0, 1) := by decide +kernel
theorem d_M_again_8 : decode prog_7_method_31_code 8 = .ok (.getfield 35, 3) := by decide +kernel
theorem d_M_again_11 : decode prog_7_method_31_code 11 = .ok (.iload_n 2, 1) := by decide +kernel
theorem d_M_again_12 : decode prog_7_method_31_code 12 = .ok (.aload_n 0, 1) := by decide +kernel
theorem d_M_again_13 : decode prog_7_method_31_code 13 = .ok (.aload_n 0, 1) := by decide +kernel
theorem d_M_again_14 : decode prog_7_method_31_code 14 = .ok (.getfield 13, 3) := by decide +kernel
theorem d_M_again_17 : decode prog_7_method_31_code 17 = .ok (.iload_n 1, 1) := by decide +kernel
theorem d_M_again_18 : decode prog_7_method_31_code 18 = .ok (.iaload, 1) := by decide +kernel
theorem d_M_again_19 : decode prog_7_method_31_code 19 = .ok (.iload_n 2, 1) := by decide +kernel
theorem d_M_again_20 : decode prog_7_method_31_code 20 = .ok (.invokevirtual 115, 3) := by decide +kernel
theorem d_M_again_23 : decode prog_7_method_31_code 23 = .ok (.lastore, 1) := by decide +kernel
theorem d_M_again_24 : decode prog_7_method_31_code 24 = .ok (.aload_n 0, 1) := by decide +kernel
theorem d_M_again_25 : decode prog_7_method_31_code 25 = .ok (.getfield 41, 3) := by decide +kernel
theorem d_M_again_28 : decode prog_7_method_31_code 28 = .ok (.iload_n 2, 1) := by decide +kernel
theorem d_M_again_29 : decode prog_7_method_31_code 29 = .ok (.aload_n 0, 1) := by decide +kernel
theorem d_M_again_30 : decode prog_7_method_31_code 30 = .ok (.iload_n 1, 1) := by decide +kernel
theorem d_M_again_31 : decode prog_7_method_31_code 31 = .ok (.iload_n 2, 1) := by decide +kernel
theorem d_M_again_32 : decode prog_7_method_31_code 32 = .ok (.invokevirtual 115, 3) := by decide +kernel
theorem d_M_again_35 : decode prog_7_method_31_code 35 = .ok (.lastore, 1) := by decide +kernel
theorem d_M_again_36 : decode prog_7_method_31_code 36 = .ok (.iinc 2 1, 3) := by decide +kernel
theorem d_M_again_39 : decode prog_7_method_31_code 39 = .ok (.goto (-37), 3) := by decide +kernel
theorem d_M_again_42 : decode prog_7_method_31_code 42 = .ok (.aload_n 0, 1) := by decide +kernel
theorem d_M_again_43 : decode prog_7_method_31_code 43 = .ok (.invokevirtual 144, 3) := by decide +kernel
theorem d_M_again_46 : decode prog_7_method_31_code 46 = .ok (.ireturn, 1) := by decide +kernel
theorem d_M_changedNothing_0 : decode prog_7_method_11_code 0 = .ok (.iconst 1, 1) := by decide +kernel
theorem d_M_changedNothing_1 : decode prog_7_method_11_code 1 = .ok (.istore_n 1, 1) := by decide +kernel
theorem d_M_changedNothing_2 : decode prog_7_method_11_code 2 = .ok (.iconst 0, 1) := by decide +kernel
theorem d_M_changedNothing_3 : decode prog_7_method_11_code 3 = .ok (.istore_n 2, 1) := by decide +kernel
theorem d_M_changedNothing_4 : decode prog_7_method_11_code 4 = .ok (.iload_n 2, 1) := by decide +kernel
theorem d_M_changedNothing_5 : decode prog_7_method_11_code 5 = .ok (.iconst 4, 1) := by decide +kernel
theorem d_M_changedNothing_6 : decode prog_7_method_11_code 6 = .ok (.if_icmp .ge 35, 3) := by decide +kernel
theorem d_M_changedNothing_9 : decode prog_7_method_11_code 9 = .ok (.iload_n 1, 1) := by decide +kernel
theorem d_M_changedNothing_10 : decode prog_7_method_11_code 10 = .ok (.ifCond .eq 23, 3) := by decide +kernel
theorem d_M_changedNothing_13 : decode prog_7_method_11_code 13 = .ok (.aload_n 0, 1) := by decide +kernel
theorem d_M_changedNothing_14 : decode prog_7_method_11_code 14 = .ok (.getfield 44, 3) := by decide +kernel
theorem d_M_changedNothing_17 : decode prog_7_method_11_code 17 = .ok (.iload_n 2, 1) := by decide +kernel
theorem d_M_changedNothing_18 : decode prog_7_method_11_code 18 = .ok (.laload, 1) := by decide +kernel
theorem d_M_changedNothing_19 : decode prog_7_method_11_code 19 = .ok (.aload_n 0, 1) := by decide +kernel
theorem d_M_changedNothing_20 : decode prog_7_method_11_code 20 = .ok (.getfield 38, 3) := by decide +kernel
theorem d_M_changedNothing_23 : decode prog_7_method_11_code 23 = .ok (.iload_n 2, 1) := by decide +kernel
theorem d_M_changedNothing_24 : decode prog_7_method_11_code 24 = .ok (.laload, 1) := by decide +kernel
theorem d_M_changedNothing_25 : decode prog_7_method_11_code 25 = .ok (.lcmp, 1) := by decide +kernel
theorem d_M_changedNothing_26 : decode prog_7_method_11_code 26 = .ok (.ifCond .ne 7, 3) := by decide +kernel
theorem d_M_changedNothing_29 : decode prog_7_method_11_code 29 = .ok (.iconst 1, 1) := by decide +kernel
theorem d_M_changedNothing_30 : decode prog_7_method_11_code 30 = .ok (.goto 4, 3) := by decide +kernel
theorem d_M_changedNothing_33 : decode prog_7_method_11_code 33 = .ok (.iconst 0, 1) := by decide +kernel
theorem d_M_changedNothing_34 : decode prog_7_method_11_code 34 = .ok (.istore_n 1, 1) := by decide +kernel
theorem d_M_changedNothing_35 : decode prog_7_method_11_code 35 = .ok (.iinc 2 1, 3) := by decide +kernel
theorem d_M_changedNothing_38 : decode prog_7_method_11_code 38 = .ok (.goto (-34), 3) := by decide +kernel
theorem d_M_changedNothing_41 : decode prog_7_method_11_code 41 = .ok (.iload_n 1, 1) := by decide +kernel
theorem d_M_changedNothing_42 : decode prog_7_method_11_code 42 = .ok (.ireturn, 1) := by decide +kernel
theorem d_M_rebase_0 : decode prog_7_method_34_code 0 = .ok (.iload_n 1, 1) := by decide +kernel
theorem d_M_rebase_1 : decode prog_7_method_34_code 1 = .ok (.iconst 2, 1) := by decide +kernel
theorem d_M_rebase_2 : decode prog_7_method_34_code 2 = .ok (.invokestatic 123, 3) := by decide +kernel
theorem d_M_rebase_5 : decode prog_7_method_34_code 5 = .ok (.ifCond .ne 11, 3) := by decide +kernel
theorem d_M_rebase_8 : decode prog_7_method_34_code 8 = .ok (.iload_n 2, 1) := by decide +kernel
theorem d_M_rebase_9 : decode prog_7_method_34_code 9 = .ok (.iconst 4, 1) := by decide +kernel
theorem d_M_rebase_10 : decode prog_7_method_34_code 10 = .ok (.invokestatic 123, 3) := by decide +kernel
theorem d_M_rebase_13 : decode prog_7_method_34_code 13 = .ok (.ifCond .eq 5, 3) := by decide +kernel
theorem d_M_rebase_16 : decode prog_7_method_34_code 16 = .ok (.iconst (-1), 1) := by decide +kernel
theorem d_M_rebase_17 : decode prog_7_method_34_code 17 = .ok (.ireturn, 1) := by decide +kernel
theorem d_M_rebase_18 : decode prog_7_method_34_code 18 = .ok (.aload_n 0, 1) := by decide +kernel
theorem d_M_rebase_19 : decode prog_7_method_34_code 19 = .ok (.iload_n 1, 1) := by decide +kernel
theorem d_M_rebase_20 : decode prog_7_method_34_code 20 = .ok (.iload_n 2, 1) := by decide +kernel
theorem d_M_rebase_21 : decode prog_7_method_34_code 21 = .ok (.invokevirtual 130, 3) := by decide +kernel
theorem d_M_rebase_24 : decode prog_7_method_34_code 24 = .ok (.ifCond .eq 11, 3) := by decide +kernel
theorem d_M_rebase_27 : decode prog_7_method_34_code 27 = .ok (.aload_n 0, 1) := by decide +kernel
theorem d_M_rebase_28 : decode prog_7_method_34_code 28 = .ok (.iload_n 1, 1) := by decide +kernel
theorem d_M_rebase_29 : decode prog_7_method_34_code 29 = .ok (.invokevirtual 111, 3) := by decide +kernel
theorem d_M_rebase_32 : decode prog_7_method_34_code 32 = .ok (.ifCond .ge 6, 3) := by decide +kernel
theorem d_M_rebase_35 : decode prog_7_method_34_code 35 = .ok (.bipush (-2), 2) := by decide +kernel
theorem d_M_rebase_37 : decode prog_7_method_34_code 37 = .ok (.ireturn, 1) := by decide +kernel
theorem d_M_rebase_38 : decode prog_7_method_34_code 38 = .ok (.aload_n 0, 1) := by decide +kernel
theorem d_M_rebase_39 : decode prog_7_method_34_code 39 = .ok (.iload_n 1, 1) := by decide +kernel
theorem d_M_rebase_40 : decode prog_7_method_34_code 40 = .ok (.invokevirtual 133, 3) := by decide +kernel
theorem d_M_rebase_43 : decode prog_7_method_34_code 43 = .ok (.ifCond .eq 6, 3) := by decide +kernel
theorem d_M_rebase_46 : decode prog_7_method_34_code 46 = .ok (.bipush (-3), 2) := by decide +kernel
theorem d_M_rebase_48 : decode prog_7_method_34_code 48 = .ok (.ireturn, 1) := by decide +kernel
theorem d_M_rebase_49 : decode prog_7_method_34_code 49 = .ok (.aload_n 0, 1) := by decide +kernel
theorem d_M_rebase_50 : decode prog_7_method_34_code 50 = .ok (.getfield 23, 3) := by decide +kernel
theorem d_M_rebase_53 : decode prog_7_method_34_code 53 = .ok (.iconst 4, 1) := by decide +kernel
theorem d_M_rebase_54 : decode prog_7_method_34_code 54 = .ok (.iload_n 1, 1) := by decide +kernel
theorem d_M_rebase_55 : decode prog_7_method_34_code 55 = .ok (.imul, 1) := by decide +kernel
theorem d_M_rebase_56 : decode prog_7_method_34_code 56 = .ok (.iload_n 2, 1) := by decide +kernel
theorem d_M_rebase_57 : decode prog_7_method_34_code 57 = .ok (.iadd, 1) := by decide +kernel
theorem d_M_rebase_58 : decode prog_7_method_34_code 58 = .ok (.iaload, 1) := by decide +kernel
theorem d_M_rebase_59 : decode prog_7_method_34_code 59 = .ok (.istore_n 3, 1) := by decide +kernel
theorem d_M_rebase_60 : decode prog_7_method_34_code 60 = .ok (.iconst 0, 1) := by decide +kernel
theorem d_M_rebase_61 : decode prog_7_method_34_code 61 = .ok (.istore 4, 2) := by decide +kernel
theorem d_M_rebase_63 : decode prog_7_method_34_code 63 = .ok (.iload 4, 2) := by decide +kernel
theorem d_M_rebase_65 : decode prog_7_method_34_code 65 = .ok (.iconst 4, 1) := by decide +kernel
theorem d_M_rebase_66 : decode prog_7_method_34_code 66 = .ok (.if_icmp .ge 23, 3) := by decide +kernel
theorem d_M_rebase_69 : decode prog_7_method_34_code 69 = .ok (.aload_n 0, 1) := by decide +kernel
theorem d_M_rebase_70 : decode prog_7_method_34_code 70 = .ok (.getfield 38, 3) := by decide +kernel
theorem d_M_rebase_73 : decode prog_7_method_34_code 73 = .ok (.iload 4, 2) := by decide +kernel
theorem d_M_rebase_75 : decode prog_7_method_34_code 75 = .ok (.aload_n 0, 1) := by decide +kernel
theorem d_M_rebase_76 : decode prog_7_method_34_code 76 = .ok (.iload_n 3, 1) := by decide +kernel
theorem d_M_rebase_77 : decode prog_7_method_34_code 77 = .ok (.iload 4, 2) := by decide +kernel
theorem d_M_rebase_79 : decode prog_7_method_34_code 79 = .ok (.invokevirtual 115, 3) := by decide +kernel
theorem d_M_rebase_82 : decode prog_7_method_34_code 82 = .ok (.lastore, 1) := by decide +kernel
theorem d_M_rebase_83 : decode prog_7_method_34_code 83 = .ok (.iinc 4 1, 3) := by decide +kernel
theorem d_M_rebase_86 : decode prog_7_method_34_code 86 = .ok (.goto (-23), 3) := by decide +kernel
theorem d_M_rebase_89 : decode prog_7_method_34_code 89 = .ok (.aload_n 0, 1) := by decide +kernel
theorem d_M_rebase_90 : decode prog_7_method_34_code 90 = .ok (.aload_n 0, 1) := by decide +kernel
theorem d_M_rebase_91 : decode prog_7_method_34_code 91 = .ok (.aload_n 0, 1) := by decide +kernel
theorem d_M_rebase_92 : decode prog_7_method_34_code 92 = .ok (.iload_n 1, 1) := by decide +kernel
theorem d_M_rebase_93 : decode prog_7_method_34_code 93 = .ok (.invokevirtual 111, 3) := by decide +kernel
theorem d_M_rebase_96 : decode prog_7_method_34_code 96 = .ok (.invokevirtual 100, 3) := by decide +kernel
theorem d_M_rebase_99 : decode prog_7_method_34_code 99 = .ok (.aload_n 0, 1) := by decide +kernel
theorem d_M_rebase_100 : decode prog_7_method_34_code 100 = .ok (.iload_n 3, 1) := by decide +kernel
theorem d_M_rebase_101 : decode prog_7_method_34_code 101 = .ok (.invokevirtual 100, 3) := by decide +kernel
theorem d_M_rebase_104 : decode prog_7_method_34_code 104 = .ok (.ldc2_w 158, 3) := by decide +kernel
theorem d_M_rebase_107 : decode prog_7_method_34_code 107 = .ok (.lxor, 1) := by decide +kernel
theorem d_M_rebase_108 : decode prog_7_method_34_code 108 = .ok (.land, 1) := by decide +kernel
theorem d_M_rebase_109 : decode prog_7_method_34_code 109 = .ok (.invokevirtual 160, 3) := by decide +kernel
theorem d_M_rebase_112 : decode prog_7_method_34_code 112 = .ok (.istore 4, 2) := by decide +kernel
theorem d_M_rebase_114 : decode prog_7_method_34_code 114 = .ok (.iload 4, 2) := by decide +kernel
theorem d_M_rebase_116 : decode prog_7_method_34_code 116 = .ok (.ifCond .ge 6, 3) := by decide +kernel
theorem d_M_rebase_119 : decode prog_7_method_34_code 119 = .ok (.iload 4, 2) := by decide +kernel
theorem d_M_rebase_121 : decode prog_7_method_34_code 121 = .ok (.ireturn, 1) := by decide +kernel
theorem d_M_rebase_122 : decode prog_7_method_34_code 122 = .ok (.iconst 0, 1) := by decide +kernel
theorem d_M_rebase_123 : decode prog_7_method_34_code 123 = .ok (.istore 5, 2) := by decide +kernel
theorem d_M_rebase_125 : decode prog_7_method_34_code 125 = .ok (.iload 5, 2) := by decide +kernel
theorem d_M_rebase_127 : decode prog_7_method_34_code 127 = .ok (.iload 4, 2) := by decide +kernel
theorem d_M_rebase_129 : decode prog_7_method_34_code 129 = .ok (.if_icmp .ge 56, 3) := by decide +kernel
theorem d_M_rebase_132 : decode prog_7_method_34_code 132 = .ok (.aload_n 0, 1) := by decide +kernel
theorem d_M_rebase_133 : decode prog_7_method_34_code 133 = .ok (.iload_n 1, 1) := by decide +kernel
theorem d_M_rebase_134 : decode prog_7_method_34_code 134 = .ok (.iload_n 3, 1) := by decide +kernel
theorem d_M_rebase_135 : decode prog_7_method_34_code 135 = .ok (.bipush (-2), 2) := by decide +kernel
theorem d_M_rebase_137 : decode prog_7_method_34_code 137 = .ok (.invokevirtual 126, 3) := by decide +kernel
theorem d_M_rebase_140 : decode prog_7_method_34_code 140 = .ok (.istore_n 3, 1) := by decide +kernel
theorem d_M_rebase_141 : decode prog_7_method_34_code 141 = .ok (.iconst 0, 1) := by decide +kernel
theorem d_M_rebase_142 : decode prog_7_method_34_code 142 = .ok (.istore 6, 2) := by decide +kernel
theorem d_M_rebase_144 : decode prog_7_method_34_code 144 = .ok (.iload 6, 2) := by decide +kernel
theorem d_M_rebase_146 : decode prog_7_method_34_code 146 = .ok (.iconst 4, 1) := by decide +kernel
theorem d_M_rebase_147 : decode prog_7_method_34_code 147 = .ok (.if_icmp .ge 32, 3) := by decide +kernel
theorem d_M_rebase_150 : decode prog_7_method_34_code 150 = .ok (.aload_n 0, 1) := by decide +kernel
theorem d_M_rebase_151 : decode prog_7_method_34_code 151 = .ok (.getfield 7, 3) := by decide +kernel
theorem d_M_rebase_154 : decode prog_7_method_34_code 154 = .ok (.iconst 4, 1) := by decide +kernel
theorem d_M_rebase_155 : decode prog_7_method_34_code 155 = .ok (.iload_n 3, 1) := by decide +kernel
theorem d_M_rebase_156 : decode prog_7_method_34_code 156 = .ok (.imul, 1) := by decide +kernel
theorem d_M_rebase_157 : decode prog_7_method_34_code 157 = .ok (.iload 6, 2) := by decide +kernel
theorem d_M_rebase_159 : decode prog_7_method_34_code 159 = .ok (.iadd, 1) := by decide +kernel
theorem d_M_rebase_160 : decode prog_7_method_34_code 160 = .ok (.aload_n 0, 1) := by decide +kernel
theorem d_M_rebase_161 : decode prog_7_method_34_code 161 = .ok (.getfield 59, 3) := by decide +kernel
theorem d_M_rebase_164 : decode prog_7_method_34_code 164 = .ok (.iconst 4, 1) := by decide +kernel
theorem d_M_rebase_165 : decode prog_7_method_34_code 165 = .ok (.iload 5, 2) := by decide +kernel
theorem d_M_rebase_167 : decode prog_7_method_34_code 167 = .ok (.imul, 1) := by decide +kernel
theorem d_M_rebase_168 : decode prog_7_method_34_code 168 = .ok (.iload 6, 2) := by decide +kernel
theorem d_M_rebase_170 : decode prog_7_method_34_code 170 = .ok (.iadd, 1) := by decide +kernel
theorem d_M_rebase_171 : decode prog_7_method_34_code 171 = .ok (.laload, 1) := by decide +kernel
theorem d_M_rebase_172 : decode prog_7_method_34_code 172 = .ok (.lastore, 1) := by decide +kernel
theorem d_M_rebase_173 : decode prog_7_method_34_code 173 = .ok (.iinc 6 1, 3) := by decide +kernel
theorem d_M_rebase_176 : decode prog_7_method_34_code 176 = .ok (.goto (-32), 3) := by decide +kernel
theorem d_M_rebase_179 : decode prog_7_method_34_code 179 = .ok (.iinc 5 1, 3) := by decide +kernel
theorem d_M_rebase_182 : decode prog_7_method_34_code 182 = .ok (.goto (-57), 3) := by decide +kernel
theorem d_M_rebase_185 : decode prog_7_method_34_code 185 = .ok (.aload_n 0, 1) := by decide +kernel
theorem d_M_rebase_186 : decode prog_7_method_34_code 186 = .ok (.iload_n 1, 1) := by decide +kernel
theorem d_M_rebase_187 : decode prog_7_method_34_code 187 = .ok (.iload_n 3, 1) := by decide +kernel
theorem d_M_rebase_188 : decode prog_7_method_34_code 188 = .ok (.invokevirtual 137, 3) := by decide +kernel
theorem d_M_rebase_191 : decode prog_7_method_34_code 191 = .ok (.istore 5, 2) := by decide +kernel
theorem d_M_rebase_193 : decode prog_7_method_34_code 193 = .ok (.iload 5, 2) := by decide +kernel
theorem d_M_rebase_195 : decode prog_7_method_34_code 195 = .ok (.ifCond .ge 7, 3) := by decide +kernel
theorem d_M_rebase_198 : decode prog_7_method_34_code 198 = .ok (.iconst 0, 1) := by decide +kernel
theorem d_M_rebase_199 : decode prog_7_method_34_code 199 = .ok (.goto 5, 3) := by decide +kernel
theorem d_M_rebase_202 : decode prog_7_method_34_code 202 = .ok (.iload 4, 2) := by decide +kernel
theorem d_M_rebase_204 : decode prog_7_method_34_code 204 = .ok (.ireturn, 1) := by decide +kernel
theorem d_M_replay_0 : decode prog_7_method_33_code 0 = .ok (.iconst 0, 1) := by decide +kernel
theorem d_M_replay_1 : decode prog_7_method_33_code 1 = .ok (.istore_n 3, 1) := by decide +kernel
theorem d_M_replay_2 : decode prog_7_method_33_code 2 = .ok (.iconst 0, 1) := by decide +kernel
theorem d_M_replay_3 : decode prog_7_method_33_code 3 = .ok (.istore 4, 2) := by decide +kernel
theorem d_M_replay_5 : decode prog_7_method_33_code 5 = .ok (.iload 4, 2) := by decide +kernel
theorem d_M_replay_7 : decode prog_7_method_33_code 7 = .ok (.aload_n 0, 1) := by decide +kernel
theorem d_M_replay_8 : decode prog_7_method_33_code 8 = .ok (.getfield 104, 3) := by decide +kernel
theorem d_M_replay_11 : decode prog_7_method_33_code 11 = .ok (.if_icmp .ge 113, 3) := by decide +kernel
theorem d_M_replay_14 : decode prog_7_method_33_code 14 = .ok (.lload_n 1, 1) := by decide +kernel
theorem d_M_replay_15 : decode prog_7_method_33_code 15 = .ok (.iload 4, 2) := by decide +kernel
theorem d_M_replay_17 : decode prog_7_method_33_code 17 = .ok (.lshr, 1) := by decide +kernel
theorem d_M_replay_18 : decode prog_7_method_33_code 18 = .ok (.lconst 1, 1) := by decide +kernel
theorem d_M_replay_19 : decode prog_7_method_33_code 19 = .ok (.land, 1) := by decide +kernel
theorem d_M_replay_20 : decode prog_7_method_33_code 20 = .ok (.lconst 1, 1) := by decide +kernel
theorem d_M_replay_21 : decode prog_7_method_33_code 21 = .ok (.lcmp, 1) := by decide +kernel
theorem d_M_replay_22 : decode prog_7_method_33_code 22 = .ok (.ifCond .ne 96, 3) := by decide +kernel
theorem d_M_replay_25 : decode prog_7_method_33_code 25 = .ok (.aload_n 0, 1) := by decide +kernel
theorem d_M_replay_26 : decode prog_7_method_33_code 26 = .ok (.getfield 17, 3) := by decide +kernel
theorem d_M_replay_29 : decode prog_7_method_33_code 29 = .ok (.iload 4, 2) := by decide +kernel
theorem d_M_replay_31 : decode prog_7_method_33_code 31 = .ok (.iaload, 1) := by decide +kernel
theorem d_M_replay_32 : decode prog_7_method_33_code 32 = .ok (.ifCond .ge 86, 3) := by decide +kernel
theorem d_M_replay_35 : decode prog_7_method_33_code 35 = .ok (.aload_n 0, 1) := by decide +kernel
theorem d_M_replay_36 : decode prog_7_method_33_code 36 = .ok (.iload 4, 2) := by decide +kernel
theorem d_M_replay_38 : decode prog_7_method_33_code 38 = .ok (.invokevirtual 152, 3) := by decide +kernel
theorem d_M_replay_41 : decode prog_7_method_33_code 41 = .ok (.ifCond .ne 6, 3) := by decide +kernel
theorem d_M_replay_44 : decode prog_7_method_33_code 44 = .ok (.bipush (-5), 2) := by decide +kernel
theorem d_M_replay_46 : decode prog_7_method_33_code 46 = .ok (.ireturn, 1) := by decide +kernel
theorem d_M_replay_47 : decode prog_7_method_33_code 47 = .ok (.aload_n 0, 1) := by decide +kernel
theorem d_M_replay_48 : decode prog_7_method_33_code 48 = .ok (.invokevirtual 155, 3) := by decide +kernel
theorem d_M_replay_51 : decode prog_7_method_33_code 51 = .ok (.ifCond .ne 67, 3) := by decide +kernel
theorem d_M_replay_54 : decode prog_7_method_33_code 54 = .ok (.aload_n 0, 1) := by decide +kernel
theorem d_M_replay_55 : decode prog_7_method_33_code 55 = .ok (.getfield 104, 3) := by decide +kernel
theorem d_M_replay_58 : decode prog_7_method_33_code 58 = .ok (.iload_n 3, 1) := by decide +kernel
theorem d_M_replay_59 : decode prog_7_method_33_code 59 = .ok (.iadd, 1) := by decide +kernel
theorem d_M_replay_60 : decode prog_7_method_33_code 60 = .ok (.bipush 40, 2) := by decide +kernel
theorem d_M_replay_62 : decode prog_7_method_33_code 62 = .ok (.if_icmp .ne 6, 3) := by decide +kernel
theorem d_M_replay_65 : decode prog_7_method_33_code 65 = .ok (.bipush (-6), 2) := by decide +kernel
theorem d_M_replay_67 : decode prog_7_method_33_code 67 = .ok (.ireturn, 1) := by decide +kernel
theorem d_M_replay_68 : decode prog_7_method_33_code 68 = .ok (.iconst 0, 1) := by decide +kernel
theorem d_M_replay_69 : decode prog_7_method_33_code 69 = .ok (.istore 5, 2) := by decide +kernel
theorem d_M_replay_71 : decode prog_7_method_33_code 71 = .ok (.iload 5, 2) := by decide +kernel
theorem d_M_replay_73 : decode prog_7_method_33_code 73 = .ok (.iconst 4, 1) := by decide +kernel
theorem d_M_replay_74 : decode prog_7_method_33_code 74 = .ok (.if_icmp .ge 41, 3) := by decide +kernel
theorem d_M_replay_77 : decode prog_7_method_33_code 77 = .ok (.aload_n 0, 1) := by decide +kernel
theorem d_M_replay_78 : decode prog_7_method_33_code 78 = .ok (.getfield 59, 3) := by decide +kernel
theorem d_M_replay_81 : decode prog_7_method_33_code 81 = .ok (.iconst 4, 1) := by decide +kernel
theorem d_M_replay_82 : decode prog_7_method_33_code 82 = .ok (.iload_n 3, 1) := by decide +kernel
theorem d_M_replay_83 : decode prog_7_method_33_code 83 = .ok (.imul, 1) := by decide +kernel
theorem d_M_replay_84 : decode prog_7_method_33_code 84 = .ok (.iload 5, 2) := by decide +kernel
theorem d_M_replay_86 : decode prog_7_method_33_code 86 = .ok (.iadd, 1) := by decide +kernel
theorem d_M_replay_87 : decode prog_7_method_33_code 87 = .ok (.aload_n 0, 1) := by decide +kernel
theorem d_M_replay_88 : decode prog_7_method_33_code 88 = .ok (.getfield 44, 3) := by decide +kernel
theorem d_M_replay_91 : decode prog_7_method_33_code 91 = .ok (.iload 5, 2) := by decide +kernel
theorem d_M_replay_93 : decode prog_7_method_33_code 93 = .ok (.laload, 1) := by decide +kernel
theorem d_M_replay_94 : decode prog_7_method_33_code 94 = .ok (.lastore, 1) := by decide +kernel
theorem d_M_replay_95 : decode prog_7_method_33_code 95 = .ok (.aload_n 0, 1) := by decide +kernel
theorem d_M_replay_96 : decode prog_7_method_33_code 96 = .ok (.getfield 38, 3) := by decide +kernel
theorem d_M_replay_99 : decode prog_7_method_33_code 99 = .ok (.iload 5, 2) := by decide +kernel
theorem d_M_replay_101 : decode prog_7_method_33_code 101 = .ok (.aload_n 0, 1) := by decide +kernel
theorem d_M_replay_102 : decode prog_7_method_33_code 102 = .ok (.getfield 44, 3) := by decide +kernel
theorem d_M_replay_105 : decode prog_7_method_33_code 105 = .ok (.iload 5, 2) := by decide +kernel
theorem d_M_replay_107 : decode prog_7_method_33_code 107 = .ok (.laload, 1) := by decide +kernel
theorem d_M_replay_108 : decode prog_7_method_33_code 108 = .ok (.lastore, 1) := by decide +kernel
theorem d_M_replay_109 : decode prog_7_method_33_code 109 = .ok (.iinc 5 1, 3) := by decide +kernel
theorem d_M_replay_112 : decode prog_7_method_33_code 112 = .ok (.goto (-41), 3) := by decide +kernel
theorem d_M_replay_115 : decode prog_7_method_33_code 115 = .ok (.iinc 3 1, 3) := by decide +kernel
theorem d_M_replay_118 : decode prog_7_method_33_code 118 = .ok (.iinc 4 1, 3) := by decide +kernel
theorem d_M_replay_121 : decode prog_7_method_33_code 121 = .ok (.goto (-116), 3) := by decide +kernel
theorem d_M_replay_124 : decode prog_7_method_33_code 124 = .ok (.iload_n 3, 1) := by decide +kernel
theorem d_M_replay_125 : decode prog_7_method_33_code 125 = .ok (.ireturn, 1) := by decide +kernel
theorem d_M_collect_0 : decode prog_7_method_36_code 0 = .ok (.iload_n 1, 1) := by decide +kernel
theorem d_M_collect_1 : decode prog_7_method_36_code 1 = .ok (.iconst 2, 1) := by decide +kernel
theorem d_M_collect_2 : decode prog_7_method_36_code 2 = .ok (.invokestatic 123, 3) := by decide +kernel
theorem d_M_collect_5 : decode prog_7_method_36_code 5 = .ok (.ifCond .eq 5, 3) := by decide +kernel
theorem d_M_collect_8 : decode prog_7_method_36_code 8 = .ok (.iconst (-1), 1) := by decide +kernel
theorem d_M_collect_9 : decode prog_7_method_36_code 9 = .ok (.ireturn, 1) := by decide +kernel
theorem d_M_collect_10 : decode prog_7_method_36_code 10 = .ok (.lconst 0, 1) := by decide +kernel
theorem d_M_collect_11 : decode prog_7_method_36_code 11 = .ok (.lstore_n 2, 1) := by decide +kernel
theorem d_M_collect_12 : decode prog_7_method_36_code 12 = .ok (.iconst 0, 1) := by decide +kernel
theorem d_M_collect_13 : decode prog_7_method_36_code 13 = .ok (.istore 4, 2) := by decide +kernel
theorem d_M_collect_15 : decode prog_7_method_36_code 15 = .ok (.iload 4, 2) := by decide +kernel
theorem d_M_collect_17 : decode prog_7_method_36_code 17 = .ok (.iconst 4, 1) := by decide +kernel
theorem d_M_collect_18 : decode prog_7_method_36_code 18 = .ok (.if_icmp .ge 27, 3) := by decide +kernel
theorem d_M_collect_21 : decode prog_7_method_36_code 21 = .ok (.lload_n 2, 1) := by decide +kernel
theorem d_M_collect_22 : decode prog_7_method_36_code 22 = .ok (.aload_n 0, 1) := by decide +kernel
theorem d_M_collect_23 : decode prog_7_method_36_code 23 = .ok (.aload_n 0, 1) := by decide +kernel
theorem d_M_collect_24 : decode prog_7_method_36_code 24 = .ok (.getfield 23, 3) := by decide +kernel
theorem d_M_collect_27 : decode prog_7_method_36_code 27 = .ok (.iconst 4, 1) := by decide +kernel
theorem d_M_collect_28 : decode prog_7_method_36_code 28 = .ok (.iload_n 1, 1) := by decide +kernel
theorem d_M_collect_29 : decode prog_7_method_36_code 29 = .ok (.imul, 1) := by decide +kernel
theorem d_M_collect_30 : decode prog_7_method_36_code 30 = .ok (.iload 4, 2) := by decide +kernel
theorem d_M_collect_32 : decode prog_7_method_36_code 32 = .ok (.iadd, 1) := by decide +kernel
theorem d_M_collect_33 : decode prog_7_method_36_code 33 = .ok (.iaload, 1) := by decide +kernel
theorem d_M_collect_34 : decode prog_7_method_36_code 34 = .ok (.invokevirtual 100, 3) := by decide +kernel
theorem d_M_collect_37 : decode prog_7_method_36_code 37 = .ok (.lor, 1) := by decide +kernel
theorem d_M_collect_38 : decode prog_7_method_36_code 38 = .ok (.lstore_n 2, 1) := by decide +kernel
theorem d_M_collect_39 : decode prog_7_method_36_code 39 = .ok (.iinc 4 1, 3) := by decide +kernel
theorem d_M_collect_42 : decode prog_7_method_36_code 42 = .ok (.goto (-27), 3) := by decide +kernel
theorem d_M_collect_45 : decode prog_7_method_36_code 45 = .ok (.aload_n 0, 1) := by decide +kernel
theorem d_M_collect_46 : decode prog_7_method_36_code 46 = .ok (.getfield 20, 3) := by decide +kernel
theorem d_M_collect_49 : decode prog_7_method_36_code 49 = .ok (.iload_n 1, 1) := by decide +kernel
theorem d_M_collect_50 : decode prog_7_method_36_code 50 = .ok (.laload, 1) := by decide +kernel
theorem d_M_collect_51 : decode prog_7_method_36_code 51 = .ok (.invokestatic 163, 3) := by decide +kernel
theorem d_M_collect_54 : decode prog_7_method_36_code 54 = .ok (.aload_n 0, 1) := by decide +kernel
theorem d_M_collect_55 : decode prog_7_method_36_code 55 = .ok (.getfield 20, 3) := by decide +kernel
theorem d_M_collect_58 : decode prog_7_method_36_code 58 = .ok (.iload_n 1, 1) := by decide +kernel
theorem d_M_collect_59 : decode prog_7_method_36_code 59 = .ok (.laload, 1) := by decide +kernel
theorem d_M_collect_60 : decode prog_7_method_36_code 60 = .ok (.lload_n 2, 1) := by decide +kernel
theorem d_M_collect_61 : decode prog_7_method_36_code 61 = .ok (.land, 1) := by decide +kernel
theorem d_M_collect_62 : decode prog_7_method_36_code 62 = .ok (.invokestatic 163, 3) := by decide +kernel
theorem d_M_collect_65 : decode prog_7_method_36_code 65 = .ok (.isub, 1) := by decide +kernel
theorem d_M_collect_66 : decode prog_7_method_36_code 66 = .ok (.istore 4, 2) := by decide +kernel
theorem d_M_collect_68 : decode prog_7_method_36_code 68 = .ok (.aload_n 0, 1) := by decide +kernel
theorem d_M_collect_69 : decode prog_7_method_36_code 69 = .ok (.getfield 20, 3) := by decide +kernel
theorem d_M_collect_72 : decode prog_7_method_36_code 72 = .ok (.iload_n 1, 1) := by decide +kernel
theorem d_M_collect_73 : decode prog_7_method_36_code 73 = .ok (.aload_n 0, 1) := by decide +kernel
theorem d_M_collect_74 : decode prog_7_method_36_code 74 = .ok (.getfield 20, 3) := by decide +kernel
theorem d_M_collect_77 : decode prog_7_method_36_code 77 = .ok (.iload_n 1, 1) := by decide +kernel
theorem d_M_collect_78 : decode prog_7_method_36_code 78 = .ok (.laload, 1) := by decide +kernel
theorem d_M_collect_79 : decode prog_7_method_36_code 79 = .ok (.lload_n 2, 1) := by decide +kernel
theorem d_M_collect_80 : decode prog_7_method_36_code 80 = .ok (.land, 1) := by decide +kernel
theorem d_M_collect_81 : decode prog_7_method_36_code 81 = .ok (.lastore, 1) := by decide +kernel
theorem d_M_collect_82 : decode prog_7_method_36_code 82 = .ok (.iload 4, 2) := by decide +kernel
theorem d_M_collect_84 : decode prog_7_method_36_code 84 = .ok (.ireturn, 1) := by decide +kernel
theorem d_M_many_0 : decode prog_7_method_35_code 0 = .ok (.iconst 0, 1) := by decide +kernel
theorem d_M_many_1 : decode prog_7_method_35_code 1 = .ok (.istore_n 2, 1) := by decide +kernel
theorem d_M_many_2 : decode prog_7_method_35_code 2 = .ok (.iconst 0, 1) := by decide +kernel
theorem d_M_many_3 : decode prog_7_method_35_code 3 = .ok (.istore_n 3, 1) := by decide +kernel
theorem d_M_many_4 : decode prog_7_method_35_code 4 = .ok (.iload_n 3, 1) := by decide +kernel
theorem d_M_many_5 : decode prog_7_method_35_code 5 = .ok (.bipush 40, 2) := by decide +kernel
theorem d_M_many_7 : decode prog_7_method_35_code 7 = .ok (.if_icmp .ge 18, 3) := by decide +kernel
theorem d_M_many_10 : decode prog_7_method_35_code 10 = .ok (.iload_n 2, 1) := by decide +kernel
theorem d_M_many_11 : decode prog_7_method_35_code 11 = .ok (.lload_n 0, 1) := by decide +kernel
theorem d_M_many_12 : decode prog_7_method_35_code 12 = .ok (.iload_n 3, 1) := by decide +kernel
theorem d_M_many_13 : decode prog_7_method_35_code 13 = .ok (.lshr, 1) := by decide +kernel
theorem d_M_many_14 : decode prog_7_method_35_code 14 = .ok (.lconst 1, 1) := by decide +kernel
theorem d_M_many_15 : decode prog_7_method_35_code 15 = .ok (.land, 1) := by decide +kernel
theorem d_M_many_16 : decode prog_7_method_35_code 16 = .ok (.l2i, 1) := by decide +kernel
theorem d_M_many_17 : decode prog_7_method_35_code 17 = .ok (.iadd, 1) := by decide +kernel
theorem d_M_many_18 : decode prog_7_method_35_code 18 = .ok (.istore_n 2, 1) := by decide +kernel
theorem d_M_many_19 : decode prog_7_method_35_code 19 = .ok (.iinc 3 1, 3) := by decide +kernel
theorem d_M_many_22 : decode prog_7_method_35_code 22 = .ok (.goto (-18), 3) := by decide +kernel
theorem d_M_many_25 : decode prog_7_method_35_code 25 = .ok (.iload_n 2, 1) := by decide +kernel
theorem d_M_many_26 : decode prog_7_method_35_code 26 = .ok (.ireturn, 1) := by decide +kernel
theorem d_M_send_0 : decode prog_7_method_37_code 0 = .ok (.iload_n 1, 1) := by decide +kernel
theorem d_M_send_1 : decode prog_7_method_37_code 1 = .ok (.iconst 2, 1) := by decide +kernel
theorem d_M_send_2 : decode prog_7_method_37_code 2 = .ok (.invokestatic 123, 3) := by decide +kernel
theorem d_M_send_5 : decode prog_7_method_37_code 5 = .ok (.ifCond .ne 11, 3) := by decide +kernel
theorem d_M_send_8 : decode prog_7_method_37_code 8 = .ok (.iload_n 2, 1) := by decide +kernel
theorem d_M_send_9 : decode prog_7_method_37_code 9 = .ok (.iconst 4, 1) := by decide +kernel
theorem d_M_send_10 : decode prog_7_method_37_code 10 = .ok (.invokestatic 123, 3) := by decide +kernel
theorem d_M_send_13 : decode prog_7_method_37_code 13 = .ok (.ifCond .eq 5, 3) := by decide +kernel
theorem d_M_send_16 : decode prog_7_method_37_code 16 = .ok (.iconst (-1), 1) := by decide +kernel
theorem d_M_send_17 : decode prog_7_method_37_code 17 = .ok (.ireturn, 1) := by decide +kernel
theorem d_M_send_18 : decode prog_7_method_37_code 18 = .ok (.aload_n 0, 1) := by decide +kernel
theorem d_M_send_19 : decode prog_7_method_37_code 19 = .ok (.iload_n 1, 1) := by decide +kernel
theorem d_M_send_20 : decode prog_7_method_37_code 20 = .ok (.iload_n 2, 1) := by decide +kernel
theorem d_M_send_21 : decode prog_7_method_37_code 21 = .ok (.invokevirtual 130, 3) := by decide +kernel
theorem d_M_send_24 : decode prog_7_method_37_code 24 = .ok (.ifCond .ne 6, 3) := by decide +kernel
theorem d_M_send_27 : decode prog_7_method_37_code 27 = .ok (.bipush (-2), 2) := by decide +kernel
theorem d_M_send_29 : decode prog_7_method_37_code 29 = .ok (.ireturn, 1) := by decide +kernel
theorem d_M_send_30 : decode prog_7_method_37_code 30 = .ok (.iconst 1, 1) := by decide +kernel
theorem d_M_send_31 : decode prog_7_method_37_code 31 = .ok (.iload_n 1, 1) := by decide +kernel
theorem d_M_send_32 : decode prog_7_method_37_code 32 = .ok (.isub, 1) := by decide +kernel
theorem d_M_send_33 : decode prog_7_method_37_code 33 = .ok (.istore_n 3, 1) := by decide +kernel
theorem d_M_send_34 : decode prog_7_method_37_code 34 = .ok (.aload_n 0, 1) := by decide +kernel
theorem d_M_send_35 : decode prog_7_method_37_code 35 = .ok (.getfield 26, 3) := by decide +kernel
theorem d_M_send_38 : decode prog_7_method_37_code 38 = .ok (.iload_n 3, 1) := by decide +kernel
theorem d_M_send_39 : decode prog_7_method_37_code 39 = .ok (.iaload, 1) := by decide +kernel
theorem d_M_send_40 : decode prog_7_method_37_code 40 = .ok (.iload_n 2, 1) := by decide +kernel
theorem d_M_send_41 : decode prog_7_method_37_code 41 = .ok (.if_icmp .ne 6, 3) := by decide +kernel
theorem d_M_send_44 : decode prog_7_method_37_code 44 = .ok (.bipush (-3), 2) := by decide +kernel
theorem d_M_send_46 : decode prog_7_method_37_code 46 = .ok (.ireturn, 1) := by decide +kernel
theorem d_M_send_47 : decode prog_7_method_37_code 47 = .ok (.aload_n 0, 1) := by decide +kernel
theorem d_M_send_48 : decode prog_7_method_37_code 48 = .ok (.aload_n 0, 1) := by decide +kernel
theorem d_M_send_49 : decode prog_7_method_37_code 49 = .ok (.getfield 23, 3) := by decide +kernel
theorem d_M_send_52 : decode prog_7_method_37_code 52 = .ok (.iconst 4, 1) := by decide +kernel
theorem d_M_send_53 : decode prog_7_method_37_code 53 = .ok (.iload_n 1, 1) := by decide +kernel
theorem d_M_send_54 : decode prog_7_method_37_code 54 = .ok (.imul, 1) := by decide +kernel
theorem d_M_send_55 : decode prog_7_method_37_code 55 = .ok (.iload_n 2, 1) := by decide +kernel
theorem d_M_send_56 : decode prog_7_method_37_code 56 = .ok (.iadd, 1) := by decide +kernel
theorem d_M_send_57 : decode prog_7_method_37_code 57 = .ok (.iaload, 1) := by decide +kernel
theorem d_M_send_58 : decode prog_7_method_37_code 58 = .ok (.invokevirtual 100, 3) := by decide +kernel
theorem d_M_send_61 : decode prog_7_method_37_code 61 = .ok (.lstore 4, 2) := by decide +kernel
theorem d_M_send_63 : decode prog_7_method_37_code 63 = .ok (.aload_n 0, 1) := by decide +kernel
theorem d_M_send_64 : decode prog_7_method_37_code 64 = .ok (.getfield 23, 3) := by decide +kernel
theorem d_M_send_67 : decode prog_7_method_37_code 67 = .ok (.iconst 4, 1) := by decide +kernel
theorem d_M_send_68 : decode prog_7_method_37_code 68 = .ok (.iload_n 3, 1) := by decide +kernel
theorem d_M_send_69 : decode prog_7_method_37_code 69 = .ok (.imul, 1) := by decide +kernel
theorem d_M_send_70 : decode prog_7_method_37_code 70 = .ok (.iload_n 2, 1) := by decide +kernel
theorem d_M_send_71 : decode prog_7_method_37_code 71 = .ok (.iadd, 1) := by decide +kernel
theorem d_M_send_72 : decode prog_7_method_37_code 72 = .ok (.iaload, 1) := by decide +kernel
theorem d_M_send_73 : decode prog_7_method_37_code 73 = .ok (.istore 6, 2) := by decide +kernel
theorem d_M_send_75 : decode prog_7_method_37_code 75 = .ok (.iload 6, 2) := by decide +kernel
theorem d_M_send_77 : decode prog_7_method_37_code 77 = .ok (.ifCond .lt 18, 3) := by decide +kernel
theorem d_M_send_80 : decode prog_7_method_37_code 80 = .ok (.lload 4, 2) := by decide +kernel
theorem d_M_send_82 : decode prog_7_method_37_code 82 = .ok (.iload 6, 2) := by decide +kernel
theorem d_M_send_84 : decode prog_7_method_37_code 84 = .ok (.lshr, 1) := by decide +kernel
theorem d_M_send_85 : decode prog_7_method_37_code 85 = .ok (.lconst 1, 1) := by decide +kernel
theorem d_M_send_86 : decode prog_7_method_37_code 86 = .ok (.land, 1) := by decide +kernel
theorem d_M_send_87 : decode prog_7_method_37_code 87 = .ok (.lconst 0, 1) := by decide +kernel
theorem d_M_send_88 : decode prog_7_method_37_code 88 = .ok (.lcmp, 1) := by decide +kernel
theorem d_M_send_89 : decode prog_7_method_37_code 89 = .ok (.ifCond .ne 6, 3) := by decide +kernel
theorem d_M_send_92 : decode prog_7_method_37_code 92 = .ok (.bipush (-7), 2) := by decide +kernel
theorem d_M_send_94 : decode prog_7_method_37_code 94 = .ok (.ireturn, 1) := by decide +kernel
theorem d_M_send_95 : decode prog_7_method_37_code 95 = .ok (.lload 4, 2) := by decide +kernel
theorem d_M_send_97 : decode prog_7_method_37_code 97 = .ok (.aload_n 0, 1) := by decide +kernel
theorem d_M_send_98 : decode prog_7_method_37_code 98 = .ok (.getfield 20, 3) := by decide +kernel
theorem d_M_send_101 : decode prog_7_method_37_code 101 = .ok (.iload_n 3, 1) := by decide +kernel
theorem d_M_send_102 : decode prog_7_method_37_code 102 = .ok (.laload, 1) := by decide +kernel
theorem d_M_send_103 : decode prog_7_method_37_code 103 = .ok (.ldc2_w 158, 3) := by decide +kernel
theorem d_M_send_106 : decode prog_7_method_37_code 106 = .ok (.lxor, 1) := by decide +kernel
theorem d_M_send_107 : decode prog_7_method_37_code 107 = .ok (.land, 1) := by decide +kernel
theorem d_M_send_108 : decode prog_7_method_37_code 108 = .ok (.invokestatic 163, 3) := by decide +kernel
theorem d_M_send_111 : decode prog_7_method_37_code 111 = .ok (.istore 7, 2) := by decide +kernel
theorem d_M_send_113 : decode prog_7_method_37_code 113 = .ok (.aload_n 0, 1) := by decide +kernel
theorem d_M_send_114 : decode prog_7_method_37_code 114 = .ok (.getfield 20, 3) := by decide +kernel
theorem d_M_send_117 : decode prog_7_method_37_code 117 = .ok (.iload_n 3, 1) := by decide +kernel
theorem d_M_send_118 : decode prog_7_method_37_code 118 = .ok (.aload_n 0, 1) := by decide +kernel
theorem d_M_send_119 : decode prog_7_method_37_code 119 = .ok (.getfield 20, 3) := by decide +kernel
theorem d_M_send_122 : decode prog_7_method_37_code 122 = .ok (.iload_n 3, 1) := by decide +kernel
theorem d_M_send_123 : decode prog_7_method_37_code 123 = .ok (.laload, 1) := by decide +kernel
theorem d_M_send_124 : decode prog_7_method_37_code 124 = .ok (.lload 4, 2) := by decide +kernel
theorem d_M_send_126 : decode prog_7_method_37_code 126 = .ok (.lor, 1) := by decide +kernel
theorem d_M_send_127 : decode prog_7_method_37_code 127 = .ok (.lastore, 1) := by decide +kernel
theorem d_M_send_128 : decode prog_7_method_37_code 128 = .ok (.aload_n 0, 1) := by decide +kernel
theorem d_M_send_129 : decode prog_7_method_37_code 129 = .ok (.getfield 23, 3) := by decide +kernel
theorem d_M_send_132 : decode prog_7_method_37_code 132 = .ok (.iconst 4, 1) := by decide +kernel
theorem d_M_send_133 : decode prog_7_method_37_code 133 = .ok (.iload_n 3, 1) := by decide +kernel
theorem d_M_send_134 : decode prog_7_method_37_code 134 = .ok (.imul, 1) := by decide +kernel
theorem d_M_send_135 : decode prog_7_method_37_code 135 = .ok (.iload_n 2, 1) := by decide +kernel
theorem d_M_send_136 : decode prog_7_method_37_code 136 = .ok (.iadd, 1) := by decide +kernel
theorem d_M_send_137 : decode prog_7_method_37_code 137 = .ok (.aload_n 0, 1) := by decide +kernel
theorem d_M_send_138 : decode prog_7_method_37_code 138 = .ok (.getfield 23, 3) := by decide +kernel
theorem d_M_send_141 : decode prog_7_method_37_code 141 = .ok (.iconst 4, 1) := by decide +kernel
theorem d_M_send_142 : decode prog_7_method_37_code 142 = .ok (.iload_n 1, 1) := by decide +kernel
theorem d_M_send_143 : decode prog_7_method_37_code 143 = .ok (.imul, 1) := by decide +kernel
theorem d_M_send_144 : decode prog_7_method_37_code 144 = .ok (.iload_n 2, 1) := by decide +kernel
theorem d_M_send_145 : decode prog_7_method_37_code 145 = .ok (.iadd, 1) := by decide +kernel
theorem d_M_send_146 : decode prog_7_method_37_code 146 = .ok (.iaload, 1) := by decide +kernel
theorem d_M_send_147 : decode prog_7_method_37_code 147 = .ok (.iastore, 1) := by decide +kernel
theorem d_M_send_148 : decode prog_7_method_37_code 148 = .ok (.iload 7, 2) := by decide +kernel
theorem d_M_send_150 : decode prog_7_method_37_code 150 = .ok (.ireturn, 1) := by decide +kernel
end
section
/-! Decode rows. (Printed by gen_names.py.) -/
theorem d_M_current_0 : decode prog_7_method_38_code 0 = .ok (.iload_n 1, 1) := by decide +kernel
theorem d_M_current_1 : decode prog_7_method_38_code 1 = .ok (.iconst 2, 1) := by decide +kernel
theorem d_M_current_2 : decode prog_7_method_38_code 2 = .ok (.invokestatic 123, 3) := by decide +kernel
theorem d_M_current_5 : decode prog_7_method_38_code 5 = .ok (.ifCond .eq 7, 3) := by decide +kernel
theorem d_M_current_8 : decode prog_7_method_38_code 8 = .ok (.iconst (-1), 1) := by decide +kernel
theorem d_M_current_9 : decode prog_7_method_38_code 9 = .ok (.goto 9, 3) := by decide +kernel
theorem d_M_current_12 : decode prog_7_method_38_code 12 = .ok (.aload_n 0, 1) := by decide +kernel
theorem d_M_current_13 : decode prog_7_method_38_code 13 = .ok (.getfield 26, 3) := by decide +kernel
theorem d_M_current_16 : decode prog_7_method_38_code 16 = .ok (.iload_n 1, 1) := by decide +kernel
theorem d_M_current_17 : decode prog_7_method_38_code 17 = .ok (.iaload, 1) := by decide +kernel
theorem d_M_current_18 : decode prog_7_method_38_code 18 = .ok (.ireturn, 1) := by decide +kernel
theorem d_M_tip_0 : decode prog_7_method_39_code 0 = .ok (.iload_n 1, 1) := by decide +kernel
theorem d_M_tip_1 : decode prog_7_method_39_code 1 = .ok (.iconst 2, 1) := by decide +kernel
theorem d_M_tip_2 : decode prog_7_method_39_code 2 = .ok (.invokestatic 123, 3) := by decide +kernel
theorem d_M_tip_5 : decode prog_7_method_39_code 5 = .ok (.ifCond .ne 11, 3) := by decide +kernel
theorem d_M_tip_8 : decode prog_7_method_39_code 8 = .ok (.iload_n 2, 1) := by decide +kernel
theorem d_M_tip_9 : decode prog_7_method_39_code 9 = .ok (.iconst 4, 1) := by decide +kernel
theorem d_M_tip_10 : decode prog_7_method_39_code 10 = .ok (.invokestatic 123, 3) := by decide +kernel
theorem d_M_tip_13 : decode prog_7_method_39_code 13 = .ok (.ifCond .eq 7, 3) := by decide +kernel
theorem d_M_tip_16 : decode prog_7_method_39_code 16 = .ok (.iconst (-1), 1) := by decide +kernel
theorem d_M_tip_17 : decode prog_7_method_39_code 17 = .ok (.goto 13, 3) := by decide +kernel
theorem d_M_tip_20 : decode prog_7_method_39_code 20 = .ok (.aload_n 0, 1) := by decide +kernel
theorem d_M_tip_21 : decode prog_7_method_39_code 21 = .ok (.getfield 23, 3) := by decide +kernel
theorem d_M_tip_24 : decode prog_7_method_39_code 24 = .ok (.iconst 4, 1) := by decide +kernel
theorem d_M_tip_25 : decode prog_7_method_39_code 25 = .ok (.iload_n 1, 1) := by decide +kernel
theorem d_M_tip_26 : decode prog_7_method_39_code 26 = .ok (.imul, 1) := by decide +kernel
theorem d_M_tip_27 : decode prog_7_method_39_code 27 = .ok (.iload_n 2, 1) := by decide +kernel
theorem d_M_tip_28 : decode prog_7_method_39_code 28 = .ok (.iadd, 1) := by decide +kernel
theorem d_M_tip_29 : decode prog_7_method_39_code 29 = .ok (.iaload, 1) := by decide +kernel
theorem d_M_tip_30 : decode prog_7_method_39_code 30 = .ok (.ireturn, 1) := by decide +kernel
theorem d_M_holds_0 : decode prog_7_method_40_code 0 = .ok (.iload_n 1, 1) := by decide +kernel
theorem d_M_holds_1 : decode prog_7_method_40_code 1 = .ok (.iconst 2, 1) := by decide +kernel
theorem d_M_holds_2 : decode prog_7_method_40_code 2 = .ok (.invokestatic 123, 3) := by decide +kernel
theorem d_M_holds_5 : decode prog_7_method_40_code 5 = .ok (.ifCond .ne 33, 3) := by decide +kernel
theorem d_M_holds_8 : decode prog_7_method_40_code 8 = .ok (.iload_n 2, 1) := by decide +kernel
theorem d_M_holds_9 : decode prog_7_method_40_code 9 = .ok (.aload_n 0, 1) := by decide +kernel
theorem d_M_holds_10 : decode prog_7_method_40_code 10 = .ok (.getfield 104, 3) := by decide +kernel
theorem d_M_holds_13 : decode prog_7_method_40_code 13 = .ok (.invokestatic 123, 3) := by decide +kernel
theorem d_M_holds_16 : decode prog_7_method_40_code 16 = .ok (.ifCond .ne 22, 3) := by decide +kernel
theorem d_M_holds_19 : decode prog_7_method_40_code 19 = .ok (.aload_n 0, 1) := by decide +kernel
theorem d_M_holds_20 : decode prog_7_method_40_code 20 = .ok (.getfield 20, 3) := by decide +kernel
theorem d_M_holds_23 : decode prog_7_method_40_code 23 = .ok (.iload_n 1, 1) := by decide +kernel
theorem d_M_holds_24 : decode prog_7_method_40_code 24 = .ok (.laload, 1) := by decide +kernel
theorem d_M_holds_25 : decode prog_7_method_40_code 25 = .ok (.iload_n 2, 1) := by decide +kernel
theorem d_M_holds_26 : decode prog_7_method_40_code 26 = .ok (.lshr, 1) := by decide +kernel
theorem d_M_holds_27 : decode prog_7_method_40_code 27 = .ok (.lconst 1, 1) := by decide +kernel
theorem d_M_holds_28 : decode prog_7_method_40_code 28 = .ok (.land, 1) := by decide +kernel
theorem d_M_holds_29 : decode prog_7_method_40_code 29 = .ok (.lconst 1, 1) := by decide +kernel
theorem d_M_holds_30 : decode prog_7_method_40_code 30 = .ok (.lcmp, 1) := by decide +kernel
theorem d_M_holds_31 : decode prog_7_method_40_code 31 = .ok (.ifCond .ne 7, 3) := by decide +kernel
theorem d_M_holds_34 : decode prog_7_method_40_code 34 = .ok (.iconst 1, 1) := by decide +kernel
theorem d_M_holds_35 : decode prog_7_method_40_code 35 = .ok (.goto 4, 3) := by decide +kernel
theorem d_M_holds_38 : decode prog_7_method_40_code 38 = .ok (.iconst 0, 1) := by decide +kernel
theorem d_M_holds_39 : decode prog_7_method_40_code 39 = .ok (.ireturn, 1) := by decide +kernel
theorem d_M_commits_0 : decode prog_7_method_41_code 0 = .ok (.aload_n 0, 1) := by decide +kernel
theorem d_M_commits_1 : decode prog_7_method_41_code 1 = .ok (.getfield 104, 3) := by decide +kernel
theorem d_M_commits_4 : decode prog_7_method_41_code 4 = .ok (.ireturn, 1) := by decide +kernel
theorem d_M_parent_0 : decode prog_7_method_42_code 0 = .ok (.iload_n 1, 1) := by decide +kernel
theorem d_M_parent_1 : decode prog_7_method_42_code 1 = .ok (.aload_n 0, 1) := by decide +kernel
theorem d_M_parent_2 : decode prog_7_method_42_code 2 = .ok (.getfield 104, 3) := by decide +kernel
theorem d_M_parent_5 : decode prog_7_method_42_code 5 = .ok (.invokestatic 123, 3) := by decide +kernel
theorem d_M_parent_8 : decode prog_7_method_42_code 8 = .ok (.ifCond .ne 11, 3) := by decide +kernel
theorem d_M_parent_11 : decode prog_7_method_42_code 11 = .ok (.iload_n 2, 1) := by decide +kernel
theorem d_M_parent_12 : decode prog_7_method_42_code 12 = .ok (.iconst 2, 1) := by decide +kernel
theorem d_M_parent_13 : decode prog_7_method_42_code 13 = .ok (.invokestatic 123, 3) := by decide +kernel
theorem d_M_parent_16 : decode prog_7_method_42_code 16 = .ok (.ifCond .eq 7, 3) := by decide +kernel
theorem d_M_parent_19 : decode prog_7_method_42_code 19 = .ok (.iconst (-1), 1) := by decide +kernel
theorem d_M_parent_20 : decode prog_7_method_42_code 20 = .ok (.goto 22, 3) := by decide +kernel
theorem d_M_parent_23 : decode prog_7_method_42_code 23 = .ok (.iload_n 2, 1) := by decide +kernel
theorem d_M_parent_24 : decode prog_7_method_42_code 24 = .ok (.ifCond .ne 12, 3) := by decide +kernel
theorem d_M_parent_27 : decode prog_7_method_42_code 27 = .ok (.aload_n 0, 1) := by decide +kernel
theorem d_M_parent_28 : decode prog_7_method_42_code 28 = .ok (.getfield 13, 3) := by decide +kernel
theorem d_M_parent_31 : decode prog_7_method_42_code 31 = .ok (.iload_n 1, 1) := by decide +kernel
theorem d_M_parent_32 : decode prog_7_method_42_code 32 = .ok (.iaload, 1) := by decide +kernel
theorem d_M_parent_33 : decode prog_7_method_42_code 33 = .ok (.goto 9, 3) := by decide +kernel
theorem d_M_parent_36 : decode prog_7_method_42_code 36 = .ok (.aload_n 0, 1) := by decide +kernel
theorem d_M_parent_37 : decode prog_7_method_42_code 37 = .ok (.getfield 17, 3) := by decide +kernel
theorem d_M_parent_40 : decode prog_7_method_42_code 40 = .ok (.iload_n 1, 1) := by decide +kernel
theorem d_M_parent_41 : decode prog_7_method_42_code 41 = .ok (.iaload, 1) := by decide +kernel
theorem d_M_parent_42 : decode prog_7_method_42_code 42 = .ok (.ireturn, 1) := by decide +kernel
theorem d_M_text_0 : decode prog_7_method_43_code 0 = .ok (.iload_n 1, 1) := by decide +kernel
theorem d_M_text_1 : decode prog_7_method_43_code 1 = .ok (.aload_n 0, 1) := by decide +kernel
theorem d_M_text_2 : decode prog_7_method_43_code 2 = .ok (.getfield 104, 3) := by decide +kernel
theorem d_M_text_5 : decode prog_7_method_43_code 5 = .ok (.invokestatic 123, 3) := by decide +kernel
theorem d_M_text_8 : decode prog_7_method_43_code 8 = .ok (.ifCond .ne 11, 3) := by decide +kernel
theorem d_M_text_11 : decode prog_7_method_43_code 11 = .ok (.iload_n 2, 1) := by decide +kernel
theorem d_M_text_12 : decode prog_7_method_43_code 12 = .ok (.iconst 4, 1) := by decide +kernel
theorem d_M_text_13 : decode prog_7_method_43_code 13 = .ok (.invokestatic 123, 3) := by decide +kernel
theorem d_M_text_16 : decode prog_7_method_43_code 16 = .ok (.ifCond .eq 9, 3) := by decide +kernel
theorem d_M_text_19 : decode prog_7_method_43_code 19 = .ok (.ldc2_w 158, 3) := by decide +kernel
theorem d_M_text_22 : decode prog_7_method_43_code 22 = .ok (.goto 13, 3) := by decide +kernel
theorem d_M_text_25 : decode prog_7_method_43_code 25 = .ok (.aload_n 0, 1) := by decide +kernel
theorem d_M_text_26 : decode prog_7_method_43_code 26 = .ok (.getfield 7, 3) := by decide +kernel
theorem d_M_text_29 : decode prog_7_method_43_code 29 = .ok (.iconst 4, 1) := by decide +kernel
theorem d_M_text_30 : decode prog_7_method_43_code 30 = .ok (.iload_n 1, 1) := by decide +kernel
theorem d_M_text_31 : decode prog_7_method_43_code 31 = .ok (.imul, 1) := by decide +kernel
theorem d_M_text_32 : decode prog_7_method_43_code 32 = .ok (.iload_n 2, 1) := by decide +kernel
theorem d_M_text_33 : decode prog_7_method_43_code 33 = .ok (.iadd, 1) := by decide +kernel
theorem d_M_text_34 : decode prog_7_method_43_code 34 = .ok (.laload, 1) := by decide +kernel
theorem d_M_text_35 : decode prog_7_method_43_code 35 = .ok (.lreturn, 1) := by decide +kernel
theorem d_M_working_0 : decode prog_7_method_44_code 0 = .ok (.iload_n 1, 1) := by decide +kernel
theorem d_M_working_1 : decode prog_7_method_44_code 1 = .ok (.iconst 2, 1) := by decide +kernel
theorem d_M_working_2 : decode prog_7_method_44_code 2 = .ok (.invokestatic 123, 3) := by decide +kernel
theorem d_M_working_5 : decode prog_7_method_44_code 5 = .ok (.ifCond .ne 11, 3) := by decide +kernel
theorem d_M_working_8 : decode prog_7_method_44_code 8 = .ok (.iload_n 2, 1) := by decide +kernel
theorem d_M_working_9 : decode prog_7_method_44_code 9 = .ok (.iconst 4, 1) := by decide +kernel
theorem d_M_working_10 : decode prog_7_method_44_code 10 = .ok (.invokestatic 123, 3) := by decide +kernel
theorem d_M_working_13 : decode prog_7_method_44_code 13 = .ok (.ifCond .eq 9, 3) := by decide +kernel
theorem d_M_working_16 : decode prog_7_method_44_code 16 = .ok (.ldc2_w 158, 3) := by decide +kernel
theorem d_M_working_19 : decode prog_7_method_44_code 19 = .ok (.goto 13, 3) := by decide +kernel
theorem d_M_working_22 : decode prog_7_method_44_code 22 = .ok (.aload_n 0, 1) := by decide +kernel
theorem d_M_working_23 : decode prog_7_method_44_code 23 = .ok (.getfield 29, 3) := by decide +kernel
theorem d_M_working_26 : decode prog_7_method_44_code 26 = .ok (.iconst 4, 1) := by decide +kernel
theorem d_M_working_27 : decode prog_7_method_44_code 27 = .ok (.iload_n 1, 1) := by decide +kernel
theorem d_M_working_28 : decode prog_7_method_44_code 28 = .ok (.imul, 1) := by decide +kernel
theorem d_M_working_29 : decode prog_7_method_44_code 29 = .ok (.iload_n 2, 1) := by decide +kernel
theorem d_M_working_30 : decode prog_7_method_44_code 30 = .ok (.iadd, 1) := by decide +kernel
theorem d_M_working_31 : decode prog_7_method_44_code 31 = .ok (.laload, 1) := by decide +kernel
theorem d_M_working_32 : decode prog_7_method_44_code 32 = .ok (.lreturn, 1) := by decide +kernel
theorem d_M_staged_0 : decode prog_7_method_45_code 0 = .ok (.iload_n 1, 1) := by decide +kernel
theorem d_M_staged_1 : decode prog_7_method_45_code 1 = .ok (.iconst 2, 1) := by decide +kernel
theorem d_M_staged_2 : decode prog_7_method_45_code 2 = .ok (.invokestatic 123, 3) := by decide +kernel
theorem d_M_staged_5 : decode prog_7_method_45_code 5 = .ok (.ifCond .ne 11, 3) := by decide +kernel
theorem d_M_staged_8 : decode prog_7_method_45_code 8 = .ok (.iload_n 2, 1) := by decide +kernel
theorem d_M_staged_9 : decode prog_7_method_45_code 9 = .ok (.iconst 4, 1) := by decide +kernel
theorem d_M_staged_10 : decode prog_7_method_45_code 10 = .ok (.invokestatic 123, 3) := by decide +kernel
theorem d_M_staged_13 : decode prog_7_method_45_code 13 = .ok (.ifCond .eq 9, 3) := by decide +kernel
theorem d_M_staged_16 : decode prog_7_method_45_code 16 = .ok (.ldc2_w 158, 3) := by decide +kernel
theorem d_M_staged_19 : decode prog_7_method_45_code 19 = .ok (.goto 13, 3) := by decide +kernel
theorem d_M_staged_22 : decode prog_7_method_45_code 22 = .ok (.aload_n 0, 1) := by decide +kernel
theorem d_M_staged_23 : decode prog_7_method_45_code 23 = .ok (.getfield 32, 3) := by decide +kernel
theorem d_M_staged_26 : decode prog_7_method_45_code 26 = .ok (.iconst 4, 1) := by decide +kernel
theorem d_M_staged_27 : decode prog_7_method_45_code 27 = .ok (.iload_n 1, 1) := by decide +kernel
theorem d_M_staged_28 : decode prog_7_method_45_code 28 = .ok (.imul, 1) := by decide +kernel
theorem d_M_staged_29 : decode prog_7_method_45_code 29 = .ok (.iload_n 2, 1) := by decide +kernel
theorem d_M_staged_30 : decode prog_7_method_45_code 30 = .ok (.iadd, 1) := by decide +kernel
theorem d_M_staged_31 : decode prog_7_method_45_code 31 = .ok (.laload, 1) := by decide +kernel
theorem d_M_staged_32 : decode prog_7_method_45_code 32 = .ok (.lreturn, 1) := by decide +kernel
theorem d_M_base_0 : decode prog_7_method_46_code 0 = .ok (.iload_n 1, 1) := by decide +kernel
theorem d_M_base_1 : decode prog_7_method_46_code 1 = .ok (.aload_n 0, 1) := by decide +kernel
theorem d_M_base_2 : decode prog_7_method_46_code 2 = .ok (.getfield 104, 3) := by decide +kernel
theorem d_M_base_5 : decode prog_7_method_46_code 5 = .ok (.invokestatic 123, 3) := by decide +kernel
theorem d_M_base_8 : decode prog_7_method_46_code 8 = .ok (.ifCond .ne 14, 3) := by decide +kernel
theorem d_M_base_11 : decode prog_7_method_46_code 11 = .ok (.iload_n 2, 1) := by decide +kernel
theorem d_M_base_12 : decode prog_7_method_46_code 12 = .ok (.aload_n 0, 1) := by decide +kernel
theorem d_M_base_13 : decode prog_7_method_46_code 13 = .ok (.getfield 104, 3) := by decide +kernel
theorem d_M_base_16 : decode prog_7_method_46_code 16 = .ok (.invokestatic 123, 3) := by decide +kernel
theorem d_M_base_19 : decode prog_7_method_46_code 19 = .ok (.ifCond .eq 7, 3) := by decide +kernel
theorem d_M_base_22 : decode prog_7_method_46_code 22 = .ok (.iconst (-1), 1) := by decide +kernel
theorem d_M_base_23 : decode prog_7_method_46_code 23 = .ok (.goto 9, 3) := by decide +kernel
theorem d_M_base_26 : decode prog_7_method_46_code 26 = .ok (.aload_n 0, 1) := by decide +kernel
theorem d_M_base_27 : decode prog_7_method_46_code 27 = .ok (.iload_n 1, 1) := by decide +kernel
theorem d_M_base_28 : decode prog_7_method_46_code 28 = .ok (.iload_n 2, 1) := by decide +kernel
theorem d_M_base_29 : decode prog_7_method_46_code 29 = .ok (.invokevirtual 141, 3) := by decide +kernel
theorem d_M_base_32 : decode prog_7_method_46_code 32 = .ok (.ireturn, 1) := by decide +kernel
theorem d_L_law_0 : decode code 0 = .ok (.new 7, 3) := by decide +kernel
theorem d_L_law_3 : decode code 3 = .ok (.dup, 1) := by decide +kernel
theorem d_L_law_4 : decode code 4 = .ok (.invokespecial 9, 3) := by decide +kernel
theorem d_L_law_7 : decode code 7 = .ok (.astore_n 1, 1) := by decide +kernel
theorem d_L_law_8 : decode code 8 = .ok (.new 10, 3) := by decide +kernel
theorem d_L_law_11 : decode code 11 = .ok (.dup, 1) := by decide +kernel
theorem d_L_law_12 : decode code 12 = .ok (.invokespecial 12, 3) := by decide +kernel
theorem d_L_law_15 : decode code 15 = .ok (.astore_n 2, 1) := by decide +kernel
theorem d_L_law_16 : decode code 16 = .ok (.iconst 0, 1) := by decide +kernel
theorem d_L_law_17 : decode code 17 = .ok (.istore_n 3, 1) := by decide +kernel
theorem d_L_law_18 : decode code 18 = .ok (.iload_n 3, 1) := by decide +kernel
theorem d_L_law_19 : decode code 19 = .ok (.aload_n 0, 1) := by decide +kernel
theorem d_L_law_20 : decode code 20 = .ok (.arraylength, 1) := by decide +kernel
theorem d_L_law_21 : decode code 21 = .ok (.bipush 6, 2) := by decide +kernel
theorem d_L_law_23 : decode code 23 = .ok (.isub, 1) := by decide +kernel
theorem d_L_law_24 : decode code 24 = .ok (.if_icmp .gt 810, 3) := by decide +kernel
theorem d_L_law_27 : decode code 27 = .ok (.aload_n 0, 1) := by decide +kernel
theorem d_L_law_28 : decode code 28 = .ok (.iload_n 3, 1) := by decide +kernel
theorem d_L_law_29 : decode code 29 = .ok (.iaload, 1) := by decide +kernel
theorem d_L_law_30 : decode code 30 = .ok (.bipush 31, 2) := by decide +kernel
theorem d_L_law_32 : decode code 32 = .ok (.iand, 1) := by decide +kernel
theorem d_L_law_33 : decode code 33 = .ok (.tableswitch 795 0 20 #[99, 182, 215, 248, 271, 304, 337, 370, 403, 436, 469, 492, 525, 548, 581, 614, 627, 660, 694, 728, 762], 99) := by decide +kernel
theorem d_L_law_132 : decode code 132 = .ok (.aload_n 1, 1) := by decide +kernel
theorem d_L_law_133 : decode code 133 = .ok (.aload_n 0, 1) := by decide +kernel
theorem d_L_law_134 : decode code 134 = .ok (.iload_n 3, 1) := by decide +kernel
theorem d_L_law_135 : decode code 135 = .ok (.iconst 1, 1) := by decide +kernel
theorem d_L_law_136 : decode code 136 = .ok (.iadd, 1) := by decide +kernel
theorem d_L_law_137 : decode code 137 = .ok (.iaload, 1) := by decide +kernel
theorem d_L_law_138 : decode code 138 = .ok (.aload_n 0, 1) := by decide +kernel
theorem d_L_law_139 : decode code 139 = .ok (.iload_n 3, 1) := by decide +kernel
theorem d_L_law_140 : decode code 140 = .ok (.iconst 2, 1) := by decide +kernel
theorem d_L_law_141 : decode code 141 = .ok (.iadd, 1) := by decide +kernel
theorem d_L_law_142 : decode code 142 = .ok (.iaload, 1) := by decide +kernel
theorem d_L_law_143 : decode code 143 = .ok (.aload_n 0, 1) := by decide +kernel
theorem d_L_law_144 : decode code 144 = .ok (.iload_n 3, 1) := by decide +kernel
theorem d_L_law_145 : decode code 145 = .ok (.iconst 3, 1) := by decide +kernel
theorem d_L_law_146 : decode code 146 = .ok (.iadd, 1) := by decide +kernel
theorem d_L_law_147 : decode code 147 = .ok (.iaload, 1) := by decide +kernel
theorem d_L_law_148 : decode code 148 = .ok (.i2l, 1) := by decide +kernel
theorem d_L_law_149 : decode code 149 = .ok (.bipush 32, 2) := by decide +kernel
theorem d_L_law_151 : decode code 151 = .ok (.lshl, 1) := by decide +kernel
theorem d_L_law_152 : decode code 152 = .ok (.aload_n 0, 1) := by decide +kernel
theorem d_L_law_153 : decode code 153 = .ok (.iload_n 3, 1) := by decide +kernel
theorem d_L_law_154 : decode code 154 = .ok (.iconst 4, 1) := by decide +kernel
theorem d_L_law_155 : decode code 155 = .ok (.iadd, 1) := by decide +kernel
theorem d_L_law_156 : decode code 156 = .ok (.iaload, 1) := by decide +kernel
theorem d_L_law_157 : decode code 157 = .ok (.i2l, 1) := by decide +kernel
theorem d_L_law_158 : decode code 158 = .ok (.ldc2_w 13, 3) := by decide +kernel
theorem d_L_law_161 : decode code 161 = .ok (.land, 1) := by decide +kernel
theorem d_L_law_162 : decode code 162 = .ok (.lor, 1) := by decide +kernel
theorem d_L_law_163 : decode code 163 = .ok (.aload_n 0, 1) := by decide +kernel
theorem d_L_law_164 : decode code 164 = .ok (.iload_n 3, 1) := by decide +kernel
theorem d_L_law_165 : decode code 165 = .ok (.iconst 5, 1) := by decide +kernel
theorem d_L_law_166 : decode code 166 = .ok (.iadd, 1) := by decide +kernel
theorem d_L_law_167 : decode code 167 = .ok (.iaload, 1) := by decide +kernel
theorem d_L_law_168 : decode code 168 = .ok (.invokevirtual 15, 3) := by decide +kernel
theorem d_L_law_171 : decode code 171 = .ok (.aload_n 2, 1) := by decide +kernel
theorem d_L_law_172 : decode code 172 = .ok (.aload_n 0, 1) := by decide +kernel
theorem d_L_law_173 : decode code 173 = .ok (.iload_n 3, 1) := by decide +kernel
theorem d_L_law_174 : decode code 174 = .ok (.iconst 1, 1) := by decide +kernel
theorem d_L_law_175 : decode code 175 = .ok (.iadd, 1) := by decide +kernel
theorem d_L_law_176 : decode code 176 = .ok (.iaload, 1) := by decide +kernel
theorem d_L_law_177 : decode code 177 = .ok (.aload_n 0, 1) := by decide +kernel
theorem d_L_law_178 : decode code 178 = .ok (.iload_n 3, 1) := by decide +kernel
theorem d_L_law_179 : decode code 179 = .ok (.iconst 2, 1) := by decide +kernel
theorem d_L_law_180 : decode code 180 = .ok (.iadd, 1) := by decide +kernel
theorem d_L_law_181 : decode code 181 = .ok (.iaload, 1) := by decide +kernel
theorem d_L_law_182 : decode code 182 = .ok (.aload_n 0, 1) := by decide +kernel
theorem d_L_law_183 : decode code 183 = .ok (.iload_n 3, 1) := by decide +kernel
theorem d_L_law_184 : decode code 184 = .ok (.iconst 3, 1) := by decide +kernel
theorem d_L_law_185 : decode code 185 = .ok (.iadd, 1) := by decide +kernel
theorem d_L_law_186 : decode code 186 = .ok (.iaload, 1) := by decide +kernel
theorem d_L_law_187 : decode code 187 = .ok (.i2l, 1) := by decide +kernel
theorem d_L_law_188 : decode code 188 = .ok (.bipush 32, 2) := by decide +kernel
theorem d_L_law_190 : decode code 190 = .ok (.lshl, 1) := by decide +kernel
theorem d_L_law_191 : decode code 191 = .ok (.aload_n 0, 1) := by decide +kernel
theorem d_L_law_192 : decode code 192 = .ok (.iload_n 3, 1) := by decide +kernel
theorem d_L_law_193 : decode code 193 = .ok (.iconst 4, 1) := by decide +kernel
theorem d_L_law_194 : decode code 194 = .ok (.iadd, 1) := by decide +kernel
theorem d_L_law_195 : decode code 195 = .ok (.iaload, 1) := by decide +kernel
theorem d_L_law_196 : decode code 196 = .ok (.i2l, 1) := by decide +kernel
theorem d_L_law_197 : decode code 197 = .ok (.ldc2_w 13, 3) := by decide +kernel
theorem d_L_law_200 : decode code 200 = .ok (.land, 1) := by decide +kernel
theorem d_L_law_201 : decode code 201 = .ok (.lor, 1) := by decide +kernel
theorem d_L_law_202 : decode code 202 = .ok (.aload_n 0, 1) := by decide +kernel
theorem d_L_law_203 : decode code 203 = .ok (.iload_n 3, 1) := by decide +kernel
theorem d_L_law_204 : decode code 204 = .ok (.iconst 5, 1) := by decide +kernel
theorem d_L_law_205 : decode code 205 = .ok (.iadd, 1) := by decide +kernel
theorem d_L_law_206 : decode code 206 = .ok (.iaload, 1) := by decide +kernel
theorem d_L_law_207 : decode code 207 = .ok (.invokevirtual 19, 3) := by decide +kernel
theorem d_L_law_210 : decode code 210 = .ok (.if_icmp .eq 618, 3) := by decide +kernel
theorem d_L_law_213 : decode code 213 = .ok (.iconst 0, 1) := by decide +kernel
theorem d_L_law_214 : decode code 214 = .ok (.ireturn, 1) := by decide +kernel
theorem d_L_law_215 : decode code 215 = .ok (.aload_n 1, 1) := by decide +kernel
theorem d_L_law_216 : decode code 216 = .ok (.aload_n 0, 1) := by decide +kernel
theorem d_L_law_217 : decode code 217 = .ok (.iload_n 3, 1) := by decide +kernel
theorem d_L_law_218 : decode code 218 = .ok (.iconst 1, 1) := by decide +kernel
theorem d_L_law_219 : decode code 219 = .ok (.iadd, 1) := by decide +kernel
theorem d_L_law_220 : decode code 220 = .ok (.iaload, 1) := by decide +kernel
theorem d_L_law_221 : decode code 221 = .ok (.aload_n 0, 1) := by decide +kernel
theorem d_L_law_222 : decode code 222 = .ok (.iload_n 3, 1) := by decide +kernel
theorem d_L_law_223 : decode code 223 = .ok (.iconst 2, 1) := by decide +kernel
theorem d_L_law_224 : decode code 224 = .ok (.iadd, 1) := by decide +kernel
theorem d_L_law_225 : decode code 225 = .ok (.iaload, 1) := by decide +kernel
theorem d_L_law_226 : decode code 226 = .ok (.invokevirtual 20, 3) := by decide +kernel
theorem d_L_law_229 : decode code 229 = .ok (.aload_n 2, 1) := by decide +kernel
theorem d_L_law_230 : decode code 230 = .ok (.aload_n 0, 1) := by decide +kernel
theorem d_L_law_231 : decode code 231 = .ok (.iload_n 3, 1) := by decide +kernel
theorem d_L_law_232 : decode code 232 = .ok (.iconst 1, 1) := by decide +kernel
theorem d_L_law_233 : decode code 233 = .ok (.iadd, 1) := by decide +kernel
theorem d_L_law_234 : decode code 234 = .ok (.iaload, 1) := by decide +kernel
theorem d_L_law_235 : decode code 235 = .ok (.aload_n 0, 1) := by decide +kernel
theorem d_L_law_236 : decode code 236 = .ok (.iload_n 3, 1) := by decide +kernel
theorem d_L_law_237 : decode code 237 = .ok (.iconst 2, 1) := by decide +kernel
theorem d_L_law_238 : decode code 238 = .ok (.iadd, 1) := by decide +kernel
theorem d_L_law_239 : decode code 239 = .ok (.iaload, 1) := by decide +kernel
theorem d_L_law_240 : decode code 240 = .ok (.invokevirtual 24, 3) := by decide +kernel
theorem d_L_law_243 : decode code 243 = .ok (.if_icmp .eq 585, 3) := by decide +kernel
theorem d_L_law_246 : decode code 246 = .ok (.iconst 0, 1) := by decide +kernel
theorem d_L_law_247 : decode code 247 = .ok (.ireturn, 1) := by decide +kernel
theorem d_L_law_248 : decode code 248 = .ok (.aload_n 1, 1) := by decide +kernel
theorem d_L_law_249 : decode code 249 = .ok (.aload_n 0, 1) := by decide +kernel
theorem d_L_law_250 : decode code 250 = .ok (.iload_n 3, 1) := by decide +kernel
theorem d_L_law_251 : decode code 251 = .ok (.iconst 1, 1) := by decide +kernel
theorem d_L_law_252 : decode code 252 = .ok (.iadd, 1) := by decide +kernel
theorem d_L_law_253 : decode code 253 = .ok (.iaload, 1) := by decide +kernel
theorem d_L_law_254 : decode code 254 = .ok (.aload_n 0, 1) := by decide +kernel
theorem d_L_law_255 : decode code 255 = .ok (.iload_n 3, 1) := by decide +kernel
theorem d_L_law_256 : decode code 256 = .ok (.iconst 2, 1) := by decide +kernel
theorem d_L_law_257 : decode code 257 = .ok (.iadd, 1) := by decide +kernel
theorem d_L_law_258 : decode code 258 = .ok (.iaload, 1) := by decide +kernel
theorem d_L_law_259 : decode code 259 = .ok (.invokevirtual 25, 3) := by decide +kernel
theorem d_L_law_262 : decode code 262 = .ok (.aload_n 2, 1) := by decide +kernel
theorem d_L_law_263 : decode code 263 = .ok (.aload_n 0, 1) := by decide +kernel
theorem d_L_law_264 : decode code 264 = .ok (.iload_n 3, 1) := by decide +kernel
theorem d_L_law_265 : decode code 265 = .ok (.iconst 1, 1) := by decide +kernel
theorem d_L_law_266 : decode code 266 = .ok (.iadd, 1) := by decide +kernel
theorem d_L_law_267 : decode code 267 = .ok (.iaload, 1) := by decide +kernel
theorem d_L_law_268 : decode code 268 = .ok (.aload_n 0, 1) := by decide +kernel
theorem d_L_law_269 : decode code 269 = .ok (.iload_n 3, 1) := by decide +kernel
theorem d_L_law_270 : decode code 270 = .ok (.iconst 2, 1) := by decide +kernel
theorem d_L_law_271 : decode code 271 = .ok (.iadd, 1) := by decide +kernel
theorem d_L_law_272 : decode code 272 = .ok (.iaload, 1) := by decide +kernel
theorem d_L_law_273 : decode code 273 = .ok (.invokevirtual 28, 3) := by decide +kernel
theorem d_L_law_276 : decode code 276 = .ok (.if_icmp .eq 552, 3) := by decide +kernel
theorem d_L_law_279 : decode code 279 = .ok (.iconst 0, 1) := by decide +kernel
theorem d_L_law_280 : decode code 280 = .ok (.ireturn, 1) := by decide +kernel
theorem d_L_law_281 : decode code 281 = .ok (.aload_n 1, 1) := by decide +kernel
theorem d_L_law_282 : decode code 282 = .ok (.aload_n 0, 1) := by decide +kernel
theorem d_L_law_283 : decode code 283 = .ok (.iload_n 3, 1) := by decide +kernel
theorem d_L_law_284 : decode code 284 = .ok (.iconst 1, 1) := by decide +kernel
theorem d_L_law_285 : decode code 285 = .ok (.iadd, 1) := by decide +kernel
theorem d_L_law_286 : decode code 286 = .ok (.iaload, 1) := by decide +kernel
theorem d_L_law_287 : decode code 287 = .ok (.invokevirtual 29, 3) := by decide +kernel
theorem d_L_law_290 : decode code 290 = .ok (.aload_n 2, 1) := by decide +kernel
theorem d_L_law_291 : decode code 291 = .ok (.aload_n 0, 1) := by decide +kernel
theorem d_L_law_292 : decode code 292 = .ok (.iload_n 3, 1) := by decide +kernel
theorem d_L_law_293 : decode code 293 = .ok (.iconst 1, 1) := by decide +kernel
theorem d_L_law_294 : decode code 294 = .ok (.iadd, 1) := by decide +kernel
theorem d_L_law_295 : decode code 295 = .ok (.iaload, 1) := by decide +kernel
theorem d_L_law_296 : decode code 296 = .ok (.invokevirtual 33, 3) := by decide +kernel
theorem d_L_law_299 : decode code 299 = .ok (.if_icmp .eq 529, 3) := by decide +kernel
theorem d_L_law_302 : decode code 302 = .ok (.iconst 0, 1) := by decide +kernel
theorem d_L_law_303 : decode code 303 = .ok (.ireturn, 1) := by decide +kernel
theorem d_L_law_304 : decode code 304 = .ok (.aload_n 1, 1) := by decide +kernel
theorem d_L_law_305 : decode code 305 = .ok (.aload_n 0, 1) := by decide +kernel
theorem d_L_law_306 : decode code 306 = .ok (.iload_n 3, 1) := by decide +kernel
theorem d_L_law_307 : decode code 307 = .ok (.iconst 1, 1) := by decide +kernel
theorem d_L_law_308 : decode code 308 = .ok (.iadd, 1) := by decide +kernel
theorem d_L_law_309 : decode code 309 = .ok (.iaload, 1) := by decide +kernel
theorem d_L_law_310 : decode code 310 = .ok (.aload_n 0, 1) := by decide +kernel
theorem d_L_law_311 : decode code 311 = .ok (.iload_n 3, 1) := by decide +kernel
theorem d_L_law_312 : decode code 312 = .ok (.iconst 2, 1) := by decide +kernel
theorem d_L_law_313 : decode code 313 = .ok (.iadd, 1) := by decide +kernel
theorem d_L_law_314 : decode code 314 = .ok (.iaload, 1) := by decide +kernel
theorem d_L_law_315 : decode code 315 = .ok (.invokevirtual 34, 3) := by decide +kernel
theorem d_L_law_318 : decode code 318 = .ok (.aload_n 2, 1) := by decide +kernel
theorem d_L_law_319 : decode code 319 = .ok (.aload_n 0, 1) := by decide +kernel
theorem d_L_law_320 : decode code 320 = .ok (.iload_n 3, 1) := by decide +kernel
theorem d_L_law_321 : decode code 321 = .ok (.iconst 1, 1) := by decide +kernel
theorem d_L_law_322 : decode code 322 = .ok (.iadd, 1) := by decide +kernel
theorem d_L_law_323 : decode code 323 = .ok (.iaload, 1) := by decide +kernel
theorem d_L_law_324 : decode code 324 = .ok (.aload_n 0, 1) := by decide +kernel
theorem d_L_law_325 : decode code 325 = .ok (.iload_n 3, 1) := by decide +kernel
theorem d_L_law_326 : decode code 326 = .ok (.iconst 2, 1) := by decide +kernel
theorem d_L_law_327 : decode code 327 = .ok (.iadd, 1) := by decide +kernel
theorem d_L_law_328 : decode code 328 = .ok (.iaload, 1) := by decide +kernel
theorem d_L_law_329 : decode code 329 = .ok (.invokevirtual 37, 3) := by decide +kernel
theorem d_L_law_332 : decode code 332 = .ok (.if_icmp .eq 496, 3) := by decide +kernel
theorem d_L_law_335 : decode code 335 = .ok (.iconst 0, 1) := by decide +kernel
theorem d_L_law_336 : decode code 336 = .ok (.ireturn, 1) := by decide +kernel
theorem d_L_law_337 : decode code 337 = .ok (.aload_n 1, 1) := by decide +kernel
theorem d_L_law_338 : decode code 338 = .ok (.aload_n 0, 1) := by decide +kernel
theorem d_L_law_339 : decode code 339 = .ok (.iload_n 3, 1) := by decide +kernel
theorem d_L_law_340 : decode code 340 = .ok (.iconst 1, 1) := by decide +kernel
theorem d_L_law_341 : decode code 341 = .ok (.iadd, 1) := by decide +kernel
theorem d_L_law_342 : decode code 342 = .ok (.iaload, 1) := by decide +kernel
theorem d_L_law_343 : decode code 343 = .ok (.aload_n 0, 1) := by decide +kernel
theorem d_L_law_344 : decode code 344 = .ok (.iload_n 3, 1) := by decide +kernel
theorem d_L_law_345 : decode code 345 = .ok (.iconst 2, 1) := by decide +kernel
theorem d_L_law_346 : decode code 346 = .ok (.iadd, 1) := by decide +kernel
theorem d_L_law_347 : decode code 347 = .ok (.iaload, 1) := by decide +kernel
theorem d_L_law_348 : decode code 348 = .ok (.invokevirtual 38, 3) := by decide +kernel
theorem d_L_law_351 : decode code 351 = .ok (.aload_n 2, 1) := by decide +kernel
theorem d_L_law_352 : decode code 352 = .ok (.aload_n 0, 1) := by decide +kernel
theorem d_L_law_353 : decode code 353 = .ok (.iload_n 3, 1) := by decide +kernel
theorem d_L_law_354 : decode code 354 = .ok (.iconst 1, 1) := by decide +kernel
theorem d_L_law_355 : decode code 355 = .ok (.iadd, 1) := by decide +kernel
theorem d_L_law_356 : decode code 356 = .ok (.iaload, 1) := by decide +kernel
theorem d_L_law_357 : decode code 357 = .ok (.aload_n 0, 1) := by decide +kernel
theorem d_L_law_358 : decode code 358 = .ok (.iload_n 3, 1) := by decide +kernel
theorem d_L_law_359 : decode code 359 = .ok (.iconst 2, 1) := by decide +kernel
theorem d_L_law_360 : decode code 360 = .ok (.iadd, 1) := by decide +kernel
theorem d_L_law_361 : decode code 361 = .ok (.iaload, 1) := by decide +kernel
theorem d_L_law_362 : decode code 362 = .ok (.invokevirtual 41, 3) := by decide +kernel
theorem d_L_law_365 : decode code 365 = .ok (.if_icmp .eq 463, 3) := by decide +kernel
theorem d_L_law_368 : decode code 368 = .ok (.iconst 0, 1) := by decide +kernel
theorem d_L_law_369 : decode code 369 = .ok (.ireturn, 1) := by decide +kernel
theorem d_L_law_370 : decode code 370 = .ok (.aload_n 1, 1) := by decide +kernel
theorem d_L_law_371 : decode code 371 = .ok (.aload_n 0, 1) := by decide +kernel
theorem d_L_law_372 : decode code 372 = .ok (.iload_n 3, 1) := by decide +kernel
theorem d_L_law_373 : decode code 373 = .ok (.iconst 1, 1) := by decide +kernel
theorem d_L_law_374 : decode code 374 = .ok (.iadd, 1) := by decide +kernel
theorem d_L_law_375 : decode code 375 = .ok (.iaload, 1) := by decide +kernel
theorem d_L_law_376 : decode code 376 = .ok (.aload_n 0, 1) := by decide +kernel
theorem d_L_law_377 : decode code 377 = .ok (.iload_n 3, 1) := by decide +kernel
theorem d_L_law_378 : decode code 378 = .ok (.iconst 2, 1) := by decide +kernel
theorem d_L_law_379 : decode code 379 = .ok (.iadd, 1) := by decide +kernel
theorem d_L_law_380 : decode code 380 = .ok (.iaload, 1) := by decide +kernel
theorem d_L_law_381 : decode code 381 = .ok (.invokevirtual 42, 3) := by decide +kernel
theorem d_L_law_384 : decode code 384 = .ok (.aload_n 2, 1) := by decide +kernel
theorem d_L_law_385 : decode code 385 = .ok (.aload_n 0, 1) := by decide +kernel
theorem d_L_law_386 : decode code 386 = .ok (.iload_n 3, 1) := by decide +kernel
theorem d_L_law_387 : decode code 387 = .ok (.iconst 1, 1) := by decide +kernel
theorem d_L_law_388 : decode code 388 = .ok (.iadd, 1) := by decide +kernel
theorem d_L_law_389 : decode code 389 = .ok (.iaload, 1) := by decide +kernel
theorem d_L_law_390 : decode code 390 = .ok (.aload_n 0, 1) := by decide +kernel
theorem d_L_law_391 : decode code 391 = .ok (.iload_n 3, 1) := by decide +kernel
theorem d_L_law_392 : decode code 392 = .ok (.iconst 2, 1) := by decide +kernel
theorem d_L_law_393 : decode code 393 = .ok (.iadd, 1) := by decide +kernel
theorem d_L_law_394 : decode code 394 = .ok (.iaload, 1) := by decide +kernel
theorem d_L_law_395 : decode code 395 = .ok (.invokevirtual 46, 3) := by decide +kernel
theorem d_L_law_398 : decode code 398 = .ok (.if_icmp .eq 430, 3) := by decide +kernel
theorem d_L_law_401 : decode code 401 = .ok (.iconst 0, 1) := by decide +kernel
theorem d_L_law_402 : decode code 402 = .ok (.ireturn, 1) := by decide +kernel
theorem d_L_law_403 : decode code 403 = .ok (.aload_n 1, 1) := by decide +kernel
theorem d_L_law_404 : decode code 404 = .ok (.aload_n 0, 1) := by decide +kernel
theorem d_L_law_405 : decode code 405 = .ok (.iload_n 3, 1) := by decide +kernel
theorem d_L_law_406 : decode code 406 = .ok (.iconst 1, 1) := by decide +kernel
theorem d_L_law_407 : decode code 407 = .ok (.iadd, 1) := by decide +kernel
theorem d_L_law_408 : decode code 408 = .ok (.iaload, 1) := by decide +kernel
theorem d_L_law_409 : decode code 409 = .ok (.aload_n 0, 1) := by decide +kernel
theorem d_L_law_410 : decode code 410 = .ok (.iload_n 3, 1) := by decide +kernel
theorem d_L_law_411 : decode code 411 = .ok (.iconst 2, 1) := by decide +kernel
theorem d_L_law_412 : decode code 412 = .ok (.iadd, 1) := by decide +kernel
theorem d_L_law_413 : decode code 413 = .ok (.iaload, 1) := by decide +kernel
theorem d_L_law_414 : decode code 414 = .ok (.invokevirtual 47, 3) := by decide +kernel
theorem d_L_law_417 : decode code 417 = .ok (.aload_n 2, 1) := by decide +kernel
theorem d_L_law_418 : decode code 418 = .ok (.aload_n 0, 1) := by decide +kernel
theorem d_L_law_419 : decode code 419 = .ok (.iload_n 3, 1) := by decide +kernel
theorem d_L_law_420 : decode code 420 = .ok (.iconst 1, 1) := by decide +kernel
theorem d_L_law_421 : decode code 421 = .ok (.iadd, 1) := by decide +kernel
theorem d_L_law_422 : decode code 422 = .ok (.iaload, 1) := by decide +kernel
theorem d_L_law_423 : decode code 423 = .ok (.aload_n 0, 1) := by decide +kernel
theorem d_L_law_424 : decode code 424 = .ok (.iload_n 3, 1) := by decide +kernel
theorem d_L_law_425 : decode code 425 = .ok (.iconst 2, 1) := by decide +kernel
theorem d_L_law_426 : decode code 426 = .ok (.iadd, 1) := by decide +kernel
theorem d_L_law_427 : decode code 427 = .ok (.iaload, 1) := by decide +kernel
theorem d_L_law_428 : decode code 428 = .ok (.invokevirtual 50, 3) := by decide +kernel
theorem d_L_law_431 : decode code 431 = .ok (.if_icmp .eq 397, 3) := by decide +kernel
theorem d_L_law_434 : decode code 434 = .ok (.iconst 0, 1) := by decide +kernel
theorem d_L_law_435 : decode code 435 = .ok (.ireturn, 1) := by decide +kernel
theorem d_L_law_436 : decode code 436 = .ok (.aload_n 1, 1) := by decide +kernel
theorem d_L_law_437 : decode code 437 = .ok (.aload_n 0, 1) := by decide +kernel
theorem d_L_law_438 : decode code 438 = .ok (.iload_n 3, 1) := by decide +kernel
theorem d_L_law_439 : decode code 439 = .ok (.iconst 1, 1) := by decide +kernel
theorem d_L_law_440 : decode code 440 = .ok (.iadd, 1) := by decide +kernel
theorem d_L_law_441 : decode code 441 = .ok (.iaload, 1) := by decide +kernel
theorem d_L_law_442 : decode code 442 = .ok (.aload_n 0, 1) := by decide +kernel
theorem d_L_law_443 : decode code 443 = .ok (.iload_n 3, 1) := by decide +kernel
theorem d_L_law_444 : decode code 444 = .ok (.iconst 2, 1) := by decide +kernel
theorem d_L_law_445 : decode code 445 = .ok (.iadd, 1) := by decide +kernel
theorem d_L_law_446 : decode code 446 = .ok (.iaload, 1) := by decide +kernel
theorem d_L_law_447 : decode code 447 = .ok (.invokevirtual 51, 3) := by decide +kernel
theorem d_L_law_450 : decode code 450 = .ok (.aload_n 2, 1) := by decide +kernel
theorem d_L_law_451 : decode code 451 = .ok (.aload_n 0, 1) := by decide +kernel
theorem d_L_law_452 : decode code 452 = .ok (.iload_n 3, 1) := by decide +kernel
theorem d_L_law_453 : decode code 453 = .ok (.iconst 1, 1) := by decide +kernel
theorem d_L_law_454 : decode code 454 = .ok (.iadd, 1) := by decide +kernel
theorem d_L_law_455 : decode code 455 = .ok (.iaload, 1) := by decide +kernel
theorem d_L_law_456 : decode code 456 = .ok (.aload_n 0, 1) := by decide +kernel
theorem d_L_law_457 : decode code 457 = .ok (.iload_n 3, 1) := by decide +kernel
theorem d_L_law_458 : decode code 458 = .ok (.iconst 2, 1) := by decide +kernel
theorem d_L_law_459 : decode code 459 = .ok (.iadd, 1) := by decide +kernel
theorem d_L_law_460 : decode code 460 = .ok (.iaload, 1) := by decide +kernel
theorem d_L_law_461 : decode code 461 = .ok (.invokevirtual 54, 3) := by decide +kernel
theorem d_L_law_464 : decode code 464 = .ok (.if_icmp .eq 364, 3) := by decide +kernel
theorem d_L_law_467 : decode code 467 = .ok (.iconst 0, 1) := by decide +kernel
theorem d_L_law_468 : decode code 468 = .ok (.ireturn, 1) := by decide +kernel
theorem d_L_law_469 : decode code 469 = .ok (.aload_n 1, 1) := by decide +kernel
theorem d_L_law_470 : decode code 470 = .ok (.aload_n 0, 1) := by decide +kernel
theorem d_L_law_471 : decode code 471 = .ok (.iload_n 3, 1) := by decide +kernel
theorem d_L_law_472 : decode code 472 = .ok (.iconst 1, 1) := by decide +kernel
theorem d_L_law_473 : decode code 473 = .ok (.iadd, 1) := by decide +kernel
theorem d_L_law_474 : decode code 474 = .ok (.iaload, 1) := by decide +kernel
theorem d_L_law_475 : decode code 475 = .ok (.aload_n 0, 1) := by decide +kernel
theorem d_L_law_476 : decode code 476 = .ok (.iload_n 3, 1) := by decide +kernel
theorem d_L_law_477 : decode code 477 = .ok (.iconst 2, 1) := by decide +kernel
theorem d_L_law_478 : decode code 478 = .ok (.iadd, 1) := by decide +kernel
theorem d_L_law_479 : decode code 479 = .ok (.iaload, 1) := by decide +kernel
theorem d_L_law_480 : decode code 480 = .ok (.invokevirtual 55, 3) := by decide +kernel
theorem d_L_law_483 : decode code 483 = .ok (.aload_n 2, 1) := by decide +kernel
theorem d_L_law_484 : decode code 484 = .ok (.aload_n 0, 1) := by decide +kernel
theorem d_L_law_485 : decode code 485 = .ok (.iload_n 3, 1) := by decide +kernel
theorem d_L_law_486 : decode code 486 = .ok (.iconst 1, 1) := by decide +kernel
theorem d_L_law_487 : decode code 487 = .ok (.iadd, 1) := by decide +kernel
theorem d_L_law_488 : decode code 488 = .ok (.iaload, 1) := by decide +kernel
theorem d_L_law_489 : decode code 489 = .ok (.aload_n 0, 1) := by decide +kernel
theorem d_L_law_490 : decode code 490 = .ok (.iload_n 3, 1) := by decide +kernel
theorem d_L_law_491 : decode code 491 = .ok (.iconst 2, 1) := by decide +kernel
theorem d_L_law_492 : decode code 492 = .ok (.iadd, 1) := by decide +kernel
theorem d_L_law_493 : decode code 493 = .ok (.iaload, 1) := by decide +kernel
theorem d_L_law_494 : decode code 494 = .ok (.invokevirtual 58, 3) := by decide +kernel
theorem d_L_law_497 : decode code 497 = .ok (.if_icmp .eq 331, 3) := by decide +kernel
theorem d_L_law_500 : decode code 500 = .ok (.iconst 0, 1) := by decide +kernel
theorem d_L_law_501 : decode code 501 = .ok (.ireturn, 1) := by decide +kernel
theorem d_L_law_502 : decode code 502 = .ok (.aload_n 1, 1) := by decide +kernel
theorem d_L_law_503 : decode code 503 = .ok (.aload_n 0, 1) := by decide +kernel
theorem d_L_law_504 : decode code 504 = .ok (.iload_n 3, 1) := by decide +kernel
theorem d_L_law_505 : decode code 505 = .ok (.iconst 1, 1) := by decide +kernel
theorem d_L_law_506 : decode code 506 = .ok (.iadd, 1) := by decide +kernel
theorem d_L_law_507 : decode code 507 = .ok (.iaload, 1) := by decide +kernel
theorem d_L_law_508 : decode code 508 = .ok (.invokevirtual 59, 3) := by decide +kernel
theorem d_L_law_511 : decode code 511 = .ok (.aload_n 2, 1) := by decide +kernel
theorem d_L_law_512 : decode code 512 = .ok (.aload_n 0, 1) := by decide +kernel
theorem d_L_law_513 : decode code 513 = .ok (.iload_n 3, 1) := by decide +kernel
theorem d_L_law_514 : decode code 514 = .ok (.iconst 1, 1) := by decide +kernel
theorem d_L_law_515 : decode code 515 = .ok (.iadd, 1) := by decide +kernel
theorem d_L_law_516 : decode code 516 = .ok (.iaload, 1) := by decide +kernel
theorem d_L_law_517 : decode code 517 = .ok (.invokevirtual 62, 3) := by decide +kernel
theorem d_L_law_520 : decode code 520 = .ok (.if_icmp .eq 308, 3) := by decide +kernel
theorem d_L_law_523 : decode code 523 = .ok (.iconst 0, 1) := by decide +kernel
theorem d_L_law_524 : decode code 524 = .ok (.ireturn, 1) := by decide +kernel
theorem d_L_law_525 : decode code 525 = .ok (.aload_n 1, 1) := by decide +kernel
theorem d_L_law_526 : decode code 526 = .ok (.aload_n 0, 1) := by decide +kernel
theorem d_L_law_527 : decode code 527 = .ok (.iload_n 3, 1) := by decide +kernel
theorem d_L_law_528 : decode code 528 = .ok (.iconst 1, 1) := by decide +kernel
theorem d_L_law_529 : decode code 529 = .ok (.iadd, 1) := by decide +kernel
theorem d_L_law_530 : decode code 530 = .ok (.iaload, 1) := by decide +kernel
theorem d_L_law_531 : decode code 531 = .ok (.aload_n 0, 1) := by decide +kernel
theorem d_L_law_532 : decode code 532 = .ok (.iload_n 3, 1) := by decide +kernel
theorem d_L_law_533 : decode code 533 = .ok (.iconst 2, 1) := by decide +kernel
theorem d_L_law_534 : decode code 534 = .ok (.iadd, 1) := by decide +kernel
theorem d_L_law_535 : decode code 535 = .ok (.iaload, 1) := by decide +kernel
theorem d_L_law_536 : decode code 536 = .ok (.invokevirtual 63, 3) := by decide +kernel
theorem d_L_law_539 : decode code 539 = .ok (.aload_n 2, 1) := by decide +kernel
theorem d_L_law_540 : decode code 540 = .ok (.aload_n 0, 1) := by decide +kernel
theorem d_L_law_541 : decode code 541 = .ok (.iload_n 3, 1) := by decide +kernel
theorem d_L_law_542 : decode code 542 = .ok (.iconst 1, 1) := by decide +kernel
theorem d_L_law_543 : decode code 543 = .ok (.iadd, 1) := by decide +kernel
theorem d_L_law_544 : decode code 544 = .ok (.iaload, 1) := by decide +kernel
theorem d_L_law_545 : decode code 545 = .ok (.aload_n 0, 1) := by decide +kernel
theorem d_L_law_546 : decode code 546 = .ok (.iload_n 3, 1) := by decide +kernel
theorem d_L_law_547 : decode code 547 = .ok (.iconst 2, 1) := by decide +kernel
theorem d_L_law_548 : decode code 548 = .ok (.iadd, 1) := by decide +kernel
theorem d_L_law_549 : decode code 549 = .ok (.iaload, 1) := by decide +kernel
theorem d_L_law_550 : decode code 550 = .ok (.invokevirtual 66, 3) := by decide +kernel
theorem d_L_law_553 : decode code 553 = .ok (.if_icmp .eq 275, 3) := by decide +kernel
theorem d_L_law_556 : decode code 556 = .ok (.iconst 0, 1) := by decide +kernel
theorem d_L_law_557 : decode code 557 = .ok (.ireturn, 1) := by decide +kernel
theorem d_L_law_558 : decode code 558 = .ok (.aload_n 1, 1) := by decide +kernel
theorem d_L_law_559 : decode code 559 = .ok (.aload_n 0, 1) := by decide +kernel
theorem d_L_law_560 : decode code 560 = .ok (.iload_n 3, 1) := by decide +kernel
theorem d_L_law_561 : decode code 561 = .ok (.iconst 1, 1) := by decide +kernel
theorem d_L_law_562 : decode code 562 = .ok (.iadd, 1) := by decide +kernel
theorem d_L_law_563 : decode code 563 = .ok (.iaload, 1) := by decide +kernel
theorem d_L_law_564 : decode code 564 = .ok (.invokevirtual 67, 3) := by decide +kernel
theorem d_L_law_567 : decode code 567 = .ok (.aload_n 2, 1) := by decide +kernel
theorem d_L_law_568 : decode code 568 = .ok (.aload_n 0, 1) := by decide +kernel
theorem d_L_law_569 : decode code 569 = .ok (.iload_n 3, 1) := by decide +kernel
theorem d_L_law_570 : decode code 570 = .ok (.iconst 1, 1) := by decide +kernel
theorem d_L_law_571 : decode code 571 = .ok (.iadd, 1) := by decide +kernel
theorem d_L_law_572 : decode code 572 = .ok (.iaload, 1) := by decide +kernel
theorem d_L_law_573 : decode code 573 = .ok (.invokevirtual 70, 3) := by decide +kernel
theorem d_L_law_576 : decode code 576 = .ok (.if_icmp .eq 252, 3) := by decide +kernel
theorem d_L_law_579 : decode code 579 = .ok (.iconst 0, 1) := by decide +kernel
theorem d_L_law_580 : decode code 580 = .ok (.ireturn, 1) := by decide +kernel
theorem d_L_law_581 : decode code 581 = .ok (.aload_n 1, 1) := by decide +kernel
theorem d_L_law_582 : decode code 582 = .ok (.aload_n 0, 1) := by decide +kernel
theorem d_L_law_583 : decode code 583 = .ok (.iload_n 3, 1) := by decide +kernel
theorem d_L_law_584 : decode code 584 = .ok (.iconst 1, 1) := by decide +kernel
theorem d_L_law_585 : decode code 585 = .ok (.iadd, 1) := by decide +kernel
theorem d_L_law_586 : decode code 586 = .ok (.iaload, 1) := by decide +kernel
theorem d_L_law_587 : decode code 587 = .ok (.aload_n 0, 1) := by decide +kernel
theorem d_L_law_588 : decode code 588 = .ok (.iload_n 3, 1) := by decide +kernel
theorem d_L_law_589 : decode code 589 = .ok (.iconst 2, 1) := by decide +kernel
theorem d_L_law_590 : decode code 590 = .ok (.iadd, 1) := by decide +kernel
theorem d_L_law_591 : decode code 591 = .ok (.iaload, 1) := by decide +kernel
theorem d_L_law_592 : decode code 592 = .ok (.invokevirtual 71, 3) := by decide +kernel
theorem d_L_law_595 : decode code 595 = .ok (.aload_n 2, 1) := by decide +kernel
theorem d_L_law_596 : decode code 596 = .ok (.aload_n 0, 1) := by decide +kernel
theorem d_L_law_597 : decode code 597 = .ok (.iload_n 3, 1) := by decide +kernel
theorem d_L_law_598 : decode code 598 = .ok (.iconst 1, 1) := by decide +kernel
theorem d_L_law_599 : decode code 599 = .ok (.iadd, 1) := by decide +kernel
theorem d_L_law_600 : decode code 600 = .ok (.iaload, 1) := by decide +kernel
theorem d_L_law_601 : decode code 601 = .ok (.aload_n 0, 1) := by decide +kernel
theorem d_L_law_602 : decode code 602 = .ok (.iload_n 3, 1) := by decide +kernel
theorem d_L_law_603 : decode code 603 = .ok (.iconst 2, 1) := by decide +kernel
theorem d_L_law_604 : decode code 604 = .ok (.iadd, 1) := by decide +kernel
theorem d_L_law_605 : decode code 605 = .ok (.iaload, 1) := by decide +kernel
theorem d_L_law_606 : decode code 606 = .ok (.invokevirtual 74, 3) := by decide +kernel
theorem d_L_law_609 : decode code 609 = .ok (.if_icmp .eq 219, 3) := by decide +kernel
theorem d_L_law_612 : decode code 612 = .ok (.iconst 0, 1) := by decide +kernel
theorem d_L_law_613 : decode code 613 = .ok (.ireturn, 1) := by decide +kernel
theorem d_L_law_614 : decode code 614 = .ok (.aload_n 1, 1) := by decide +kernel
theorem d_L_law_615 : decode code 615 = .ok (.aload_n 0, 1) := by decide +kernel
theorem d_L_law_616 : decode code 616 = .ok (.iload_n 3, 1) := by decide +kernel
theorem d_L_law_617 : decode code 617 = .ok (.iconst 1, 1) := by decide +kernel
theorem d_L_law_618 : decode code 618 = .ok (.iadd, 1) := by decide +kernel
theorem d_L_law_619 : decode code 619 = .ok (.iaload, 1) := by decide +kernel
theorem d_L_law_620 : decode code 620 = .ok (.aload_n 0, 1) := by decide +kernel
theorem d_L_law_621 : decode code 621 = .ok (.iload_n 3, 1) := by decide +kernel
theorem d_L_law_622 : decode code 622 = .ok (.iconst 2, 1) := by decide +kernel
theorem d_L_law_623 : decode code 623 = .ok (.iadd, 1) := by decide +kernel
theorem d_L_law_624 : decode code 624 = .ok (.iaload, 1) := by decide +kernel
theorem d_L_law_625 : decode code 625 = .ok (.invokevirtual 75, 3) := by decide +kernel
theorem d_L_law_628 : decode code 628 = .ok (.aload_n 2, 1) := by decide +kernel
theorem d_L_law_629 : decode code 629 = .ok (.aload_n 0, 1) := by decide +kernel
theorem d_L_law_630 : decode code 630 = .ok (.iload_n 3, 1) := by decide +kernel
theorem d_L_law_631 : decode code 631 = .ok (.iconst 1, 1) := by decide +kernel
theorem d_L_law_632 : decode code 632 = .ok (.iadd, 1) := by decide +kernel
theorem d_L_law_633 : decode code 633 = .ok (.iaload, 1) := by decide +kernel
theorem d_L_law_634 : decode code 634 = .ok (.aload_n 0, 1) := by decide +kernel
theorem d_L_law_635 : decode code 635 = .ok (.iload_n 3, 1) := by decide +kernel
theorem d_L_law_636 : decode code 636 = .ok (.iconst 2, 1) := by decide +kernel
theorem d_L_law_637 : decode code 637 = .ok (.iadd, 1) := by decide +kernel
theorem d_L_law_638 : decode code 638 = .ok (.iaload, 1) := by decide +kernel
theorem d_L_law_639 : decode code 639 = .ok (.invokevirtual 78, 3) := by decide +kernel
theorem d_L_law_642 : decode code 642 = .ok (.if_icmp .eq 186, 3) := by decide +kernel
theorem d_L_law_645 : decode code 645 = .ok (.iconst 0, 1) := by decide +kernel
theorem d_L_law_646 : decode code 646 = .ok (.ireturn, 1) := by decide +kernel
theorem d_L_law_647 : decode code 647 = .ok (.aload_n 1, 1) := by decide +kernel
theorem d_L_law_648 : decode code 648 = .ok (.invokevirtual 79, 3) := by decide +kernel
theorem d_L_law_651 : decode code 651 = .ok (.aload_n 2, 1) := by decide +kernel
theorem d_L_law_652 : decode code 652 = .ok (.invokevirtual 83, 3) := by decide +kernel
theorem d_L_law_655 : decode code 655 = .ok (.if_icmp .eq 173, 3) := by decide +kernel
theorem d_L_law_658 : decode code 658 = .ok (.iconst 0, 1) := by decide +kernel
theorem d_L_law_659 : decode code 659 = .ok (.ireturn, 1) := by decide +kernel
theorem d_L_law_660 : decode code 660 = .ok (.aload_n 1, 1) := by decide +kernel
theorem d_L_law_661 : decode code 661 = .ok (.aload_n 0, 1) := by decide +kernel
theorem d_L_law_662 : decode code 662 = .ok (.iload_n 3, 1) := by decide +kernel
theorem d_L_law_663 : decode code 663 = .ok (.iconst 1, 1) := by decide +kernel
theorem d_L_law_664 : decode code 664 = .ok (.iadd, 1) := by decide +kernel
theorem d_L_law_665 : decode code 665 = .ok (.iaload, 1) := by decide +kernel
theorem d_L_law_666 : decode code 666 = .ok (.aload_n 0, 1) := by decide +kernel
theorem d_L_law_667 : decode code 667 = .ok (.iload_n 3, 1) := by decide +kernel
theorem d_L_law_668 : decode code 668 = .ok (.iconst 2, 1) := by decide +kernel
theorem d_L_law_669 : decode code 669 = .ok (.iadd, 1) := by decide +kernel
theorem d_L_law_670 : decode code 670 = .ok (.iaload, 1) := by decide +kernel
theorem d_L_law_671 : decode code 671 = .ok (.invokevirtual 84, 3) := by decide +kernel
theorem d_L_law_674 : decode code 674 = .ok (.aload_n 2, 1) := by decide +kernel
theorem d_L_law_675 : decode code 675 = .ok (.aload_n 0, 1) := by decide +kernel
theorem d_L_law_676 : decode code 676 = .ok (.iload_n 3, 1) := by decide +kernel
theorem d_L_law_677 : decode code 677 = .ok (.iconst 1, 1) := by decide +kernel
theorem d_L_law_678 : decode code 678 = .ok (.iadd, 1) := by decide +kernel
theorem d_L_law_679 : decode code 679 = .ok (.iaload, 1) := by decide +kernel
theorem d_L_law_680 : decode code 680 = .ok (.aload_n 0, 1) := by decide +kernel
theorem d_L_law_681 : decode code 681 = .ok (.iload_n 3, 1) := by decide +kernel
theorem d_L_law_682 : decode code 682 = .ok (.iconst 2, 1) := by decide +kernel
theorem d_L_law_683 : decode code 683 = .ok (.iadd, 1) := by decide +kernel
theorem d_L_law_684 : decode code 684 = .ok (.iaload, 1) := by decide +kernel
theorem d_L_law_685 : decode code 685 = .ok (.invokevirtual 87, 3) := by decide +kernel
theorem d_L_law_688 : decode code 688 = .ok (.if_icmp .eq 140, 3) := by decide +kernel
theorem d_L_law_691 : decode code 691 = .ok (.iconst 0, 1) := by decide +kernel
theorem d_L_law_692 : decode code 692 = .ok (.ireturn, 1) := by decide +kernel
theorem d_L_law_693 : decode code 693 = .ok (.aload_n 1, 1) := by decide +kernel
theorem d_L_law_694 : decode code 694 = .ok (.aload_n 0, 1) := by decide +kernel
theorem d_L_law_695 : decode code 695 = .ok (.iload_n 3, 1) := by decide +kernel
theorem d_L_law_696 : decode code 696 = .ok (.iconst 1, 1) := by decide +kernel
theorem d_L_law_697 : decode code 697 = .ok (.iadd, 1) := by decide +kernel
theorem d_L_law_698 : decode code 698 = .ok (.iaload, 1) := by decide +kernel
theorem d_L_law_699 : decode code 699 = .ok (.aload_n 0, 1) := by decide +kernel
theorem d_L_law_700 : decode code 700 = .ok (.iload_n 3, 1) := by decide +kernel
theorem d_L_law_701 : decode code 701 = .ok (.iconst 2, 1) := by decide +kernel
theorem d_L_law_702 : decode code 702 = .ok (.iadd, 1) := by decide +kernel
theorem d_L_law_703 : decode code 703 = .ok (.iaload, 1) := by decide +kernel
theorem d_L_law_704 : decode code 704 = .ok (.invokevirtual 88, 3) := by decide +kernel
theorem d_L_law_707 : decode code 707 = .ok (.aload_n 2, 1) := by decide +kernel
theorem d_L_law_708 : decode code 708 = .ok (.aload_n 0, 1) := by decide +kernel
theorem d_L_law_709 : decode code 709 = .ok (.iload_n 3, 1) := by decide +kernel
theorem d_L_law_710 : decode code 710 = .ok (.iconst 1, 1) := by decide +kernel
theorem d_L_law_711 : decode code 711 = .ok (.iadd, 1) := by decide +kernel
theorem d_L_law_712 : decode code 712 = .ok (.iaload, 1) := by decide +kernel
theorem d_L_law_713 : decode code 713 = .ok (.aload_n 0, 1) := by decide +kernel
theorem d_L_law_714 : decode code 714 = .ok (.iload_n 3, 1) := by decide +kernel
theorem d_L_law_715 : decode code 715 = .ok (.iconst 2, 1) := by decide +kernel
theorem d_L_law_716 : decode code 716 = .ok (.iadd, 1) := by decide +kernel
theorem d_L_law_717 : decode code 717 = .ok (.iaload, 1) := by decide +kernel
theorem d_L_law_718 : decode code 718 = .ok (.invokevirtual 92, 3) := by decide +kernel
theorem d_L_law_721 : decode code 721 = .ok (.lcmp, 1) := by decide +kernel
theorem d_L_law_722 : decode code 722 = .ok (.ifCond .eq 106, 3) := by decide +kernel
theorem d_L_law_725 : decode code 725 = .ok (.iconst 0, 1) := by decide +kernel
theorem d_L_law_726 : decode code 726 = .ok (.ireturn, 1) := by decide +kernel
theorem d_L_law_727 : decode code 727 = .ok (.aload_n 1, 1) := by decide +kernel
theorem d_L_law_728 : decode code 728 = .ok (.aload_n 0, 1) := by decide +kernel
theorem d_L_law_729 : decode code 729 = .ok (.iload_n 3, 1) := by decide +kernel
theorem d_L_law_730 : decode code 730 = .ok (.iconst 1, 1) := by decide +kernel
theorem d_L_law_731 : decode code 731 = .ok (.iadd, 1) := by decide +kernel
theorem d_L_law_732 : decode code 732 = .ok (.iaload, 1) := by decide +kernel
theorem d_L_law_733 : decode code 733 = .ok (.aload_n 0, 1) := by decide +kernel
theorem d_L_law_734 : decode code 734 = .ok (.iload_n 3, 1) := by decide +kernel
theorem d_L_law_735 : decode code 735 = .ok (.iconst 2, 1) := by decide +kernel
theorem d_L_law_736 : decode code 736 = .ok (.iadd, 1) := by decide +kernel
theorem d_L_law_737 : decode code 737 = .ok (.iaload, 1) := by decide +kernel
theorem d_L_law_738 : decode code 738 = .ok (.invokevirtual 93, 3) := by decide +kernel
theorem d_L_law_741 : decode code 741 = .ok (.aload_n 2, 1) := by decide +kernel
theorem d_L_law_742 : decode code 742 = .ok (.aload_n 0, 1) := by decide +kernel
theorem d_L_law_743 : decode code 743 = .ok (.iload_n 3, 1) := by decide +kernel
theorem d_L_law_744 : decode code 744 = .ok (.iconst 1, 1) := by decide +kernel
theorem d_L_law_745 : decode code 745 = .ok (.iadd, 1) := by decide +kernel
theorem d_L_law_746 : decode code 746 = .ok (.iaload, 1) := by decide +kernel
theorem d_L_law_747 : decode code 747 = .ok (.aload_n 0, 1) := by decide +kernel
theorem d_L_law_748 : decode code 748 = .ok (.iload_n 3, 1) := by decide +kernel
theorem d_L_law_749 : decode code 749 = .ok (.iconst 2, 1) := by decide +kernel
theorem d_L_law_750 : decode code 750 = .ok (.iadd, 1) := by decide +kernel
theorem d_L_law_751 : decode code 751 = .ok (.iaload, 1) := by decide +kernel
theorem d_L_law_752 : decode code 752 = .ok (.invokevirtual 96, 3) := by decide +kernel
theorem d_L_law_755 : decode code 755 = .ok (.lcmp, 1) := by decide +kernel
theorem d_L_law_756 : decode code 756 = .ok (.ifCond .eq 72, 3) := by decide +kernel
theorem d_L_law_759 : decode code 759 = .ok (.iconst 0, 1) := by decide +kernel
theorem d_L_law_760 : decode code 760 = .ok (.ireturn, 1) := by decide +kernel
theorem d_L_law_761 : decode code 761 = .ok (.aload_n 1, 1) := by decide +kernel
theorem d_L_law_762 : decode code 762 = .ok (.aload_n 0, 1) := by decide +kernel
theorem d_L_law_763 : decode code 763 = .ok (.iload_n 3, 1) := by decide +kernel
theorem d_L_law_764 : decode code 764 = .ok (.iconst 1, 1) := by decide +kernel
theorem d_L_law_765 : decode code 765 = .ok (.iadd, 1) := by decide +kernel
theorem d_L_law_766 : decode code 766 = .ok (.iaload, 1) := by decide +kernel
theorem d_L_law_767 : decode code 767 = .ok (.aload_n 0, 1) := by decide +kernel
theorem d_L_law_768 : decode code 768 = .ok (.iload_n 3, 1) := by decide +kernel
theorem d_L_law_769 : decode code 769 = .ok (.iconst 2, 1) := by decide +kernel
theorem d_L_law_770 : decode code 770 = .ok (.iadd, 1) := by decide +kernel
theorem d_L_law_771 : decode code 771 = .ok (.iaload, 1) := by decide +kernel
theorem d_L_law_772 : decode code 772 = .ok (.invokevirtual 97, 3) := by decide +kernel
theorem d_L_law_775 : decode code 775 = .ok (.aload_n 2, 1) := by decide +kernel
theorem d_L_law_776 : decode code 776 = .ok (.aload_n 0, 1) := by decide +kernel
theorem d_L_law_777 : decode code 777 = .ok (.iload_n 3, 1) := by decide +kernel
theorem d_L_law_778 : decode code 778 = .ok (.iconst 1, 1) := by decide +kernel
theorem d_L_law_779 : decode code 779 = .ok (.iadd, 1) := by decide +kernel
theorem d_L_law_780 : decode code 780 = .ok (.iaload, 1) := by decide +kernel
theorem d_L_law_781 : decode code 781 = .ok (.aload_n 0, 1) := by decide +kernel
theorem d_L_law_782 : decode code 782 = .ok (.iload_n 3, 1) := by decide +kernel
theorem d_L_law_783 : decode code 783 = .ok (.iconst 2, 1) := by decide +kernel
theorem d_L_law_784 : decode code 784 = .ok (.iadd, 1) := by decide +kernel
theorem d_L_law_785 : decode code 785 = .ok (.iaload, 1) := by decide +kernel
theorem d_L_law_786 : decode code 786 = .ok (.invokevirtual 100, 3) := by decide +kernel
theorem d_L_law_789 : decode code 789 = .ok (.lcmp, 1) := by decide +kernel
theorem d_L_law_790 : decode code 790 = .ok (.ifCond .eq 38, 3) := by decide +kernel
theorem d_L_law_793 : decode code 793 = .ok (.iconst 0, 1) := by decide +kernel
theorem d_L_law_794 : decode code 794 = .ok (.ireturn, 1) := by decide +kernel
theorem d_L_law_795 : decode code 795 = .ok (.aload_n 1, 1) := by decide +kernel
theorem d_L_law_796 : decode code 796 = .ok (.aload_n 0, 1) := by decide +kernel
theorem d_L_law_797 : decode code 797 = .ok (.iload_n 3, 1) := by decide +kernel
theorem d_L_law_798 : decode code 798 = .ok (.iconst 1, 1) := by decide +kernel
theorem d_L_law_799 : decode code 799 = .ok (.iadd, 1) := by decide +kernel
theorem d_L_law_800 : decode code 800 = .ok (.iaload, 1) := by decide +kernel
theorem d_L_law_801 : decode code 801 = .ok (.aload_n 0, 1) := by decide +kernel
theorem d_L_law_802 : decode code 802 = .ok (.iload_n 3, 1) := by decide +kernel
theorem d_L_law_803 : decode code 803 = .ok (.iconst 2, 1) := by decide +kernel
theorem d_L_law_804 : decode code 804 = .ok (.iadd, 1) := by decide +kernel
theorem d_L_law_805 : decode code 805 = .ok (.iaload, 1) := by decide +kernel
theorem d_L_law_806 : decode code 806 = .ok (.invokevirtual 101, 3) := by decide +kernel
theorem d_L_law_809 : decode code 809 = .ok (.aload_n 2, 1) := by decide +kernel
theorem d_L_law_810 : decode code 810 = .ok (.aload_n 0, 1) := by decide +kernel
theorem d_L_law_811 : decode code 811 = .ok (.iload_n 3, 1) := by decide +kernel
theorem d_L_law_812 : decode code 812 = .ok (.iconst 1, 1) := by decide +kernel
theorem d_L_law_813 : decode code 813 = .ok (.iadd, 1) := by decide +kernel
theorem d_L_law_814 : decode code 814 = .ok (.iaload, 1) := by decide +kernel
theorem d_L_law_815 : decode code 815 = .ok (.aload_n 0, 1) := by decide +kernel
theorem d_L_law_816 : decode code 816 = .ok (.iload_n 3, 1) := by decide +kernel
theorem d_L_law_817 : decode code 817 = .ok (.iconst 2, 1) := by decide +kernel
theorem d_L_law_818 : decode code 818 = .ok (.iadd, 1) := by decide +kernel
theorem d_L_law_819 : decode code 819 = .ok (.iaload, 1) := by decide +kernel
theorem d_L_law_820 : decode code 820 = .ok (.invokevirtual 104, 3) := by decide +kernel
theorem d_L_law_823 : decode code 823 = .ok (.if_icmp .eq 5, 3) := by decide +kernel
theorem d_L_law_826 : decode code 826 = .ok (.iconst 0, 1) := by decide +kernel
theorem d_L_law_827 : decode code 827 = .ok (.ireturn, 1) := by decide +kernel
theorem d_L_law_828 : decode code 828 = .ok (.iinc 3 6, 3) := by decide +kernel
theorem d_L_law_831 : decode code 831 = .ok (.goto (-813), 3) := by decide +kernel
theorem d_L_law_834 : decode code 834 = .ok (.iconst 1, 1) := by decide +kernel
theorem d_L_law_835 : decode code 835 = .ok (.ireturn, 1) := by decide +kernel
end
section
/-! The words that methods, fields and calls need. (Printed by gen_names.py.) -/
theorem wi_V : Cond.initialized "SnapshotVault" ∈ tb_all := tb_in (List.mem_append_right _ (List.mem_of_getElem? (i := 1) (by decide +kernel))) rfl
theorem wi_H : Cond.initialized "SnapshotVault$History" ∈ tb_all := tb_in (List.mem_append_right _ (List.mem_of_getElem? (i := 2) (by decide +kernel))) rfl
theorem wi_R : Cond.initialized "SnapshotVault$Repository" ∈ tb_all := tb_in (List.mem_append_right _ (List.mem_of_getElem? (i := 3) (by decide +kernel))) rfl
theorem wi_T : Cond.initialized "SnapshotVault$Texts" ∈ tb_all := tb_in (List.mem_append_right _ (List.mem_of_getElem? (i := 6) (by decide +kernel))) rfl
theorem wi_U : Cond.initialized "SnapshotVault$Uniter" ∈ tb_all := tb_in (List.mem_append_right _ (List.mem_of_getElem? (i := 4) (by decide +kernel))) rfl
theorem wi_M : Cond.initialized "SnapshotVaultModel" ∈ tb_all := tb_in (List.mem_append_right _ (List.mem_of_getElem? (i := 5) (by decide +kernel))) rfl
theorem wi_J : Cond.initialized "java/lang/Long" ∈ tb_all := tb_in (List.mem_append_right _ (List.mem_of_getElem? (i := 8) (by decide +kernel))) rfl
theorem wi_L : Cond.initialized "SnapshotVaultLaw" ∈ tb_all := tb_in (List.mem_append_right _ (List.mem_of_getElem? (i := 0) (by decide +kernel))) rfl
theorem wi_Y : Cond.initialized "java/lang/Math" ∈ tb_all := tb_in (List.mem_append_right _ (List.mem_of_getElem? (i := 7) (by decide +kernel))) rfl
theorem wu_H : ∀ w ∈ u_ws "SnapshotVault$History" tn_H 5, w ∈ tb_all := fun w h => by
  obtain ⟨k, hk, rfl⟩ := List.mem_map.mp h
  have hk : k < 5 := List.mem_range.mp hk
  match k, hk with
  | 0, _ => exact tb_in (List.mem_append_right _ (List.mem_of_getElem? (i := 29) (by decide +kernel))) rfl
  | 1, _ => exact tb_in (List.mem_append_right _ (List.mem_of_getElem? (i := 31) (by decide +kernel))) rfl
  | 2, _ => exact tb_in (List.mem_append_right _ (List.mem_of_getElem? (i := 33) (by decide +kernel))) rfl
  | 3, _ => exact tb_in (List.mem_append_right _ (List.mem_of_getElem? (i := 35) (by decide +kernel))) rfl
  | 4, _ => exact tb_in (List.mem_append_right _ (List.mem_of_getElem? (i := 37) (by decide +kernel))) rfl
  | n + 5, hk => exact absurd hk (by omega)
theorem cl_H : xm_cl 0 "SnapshotVault$History" tn_H 5 ty_H := ⟨rfl, wu_H, by decide +kernel, by decide +kernel⟩
theorem wu_R : ∀ w ∈ u_ws "SnapshotVault$Repository" tn_R 5, w ∈ tb_all := fun w h => by
  obtain ⟨k, hk, rfl⟩ := List.mem_map.mp h
  have hk : k < 5 := List.mem_range.mp hk
  match k, hk with
  | 0, _ => exact tb_in (List.mem_append_right _ (List.mem_of_getElem? (i := 60) (by decide +kernel))) rfl
  | 1, _ => exact tb_in (List.mem_append_right _ (List.mem_of_getElem? (i := 62) (by decide +kernel))) rfl
  | 2, _ => exact tb_in (List.mem_append_right _ (List.mem_of_getElem? (i := 64) (by decide +kernel))) rfl
  | 3, _ => exact tb_in (List.mem_append_right _ (List.mem_of_getElem? (i := 66) (by decide +kernel))) rfl
  | 4, _ => exact tb_in (List.mem_append_right _ (List.mem_of_getElem? (i := 68) (by decide +kernel))) rfl
  | n + 5, hk => exact absurd hk (by omega)
theorem cl_R : xm_cl 1 "SnapshotVault$Repository" tn_R 5 ty_R := ⟨rfl, wu_R, by decide +kernel, by decide +kernel⟩
theorem wu_U : ∀ w ∈ u_ws "SnapshotVault$Uniter" tn_U 4, w ∈ tb_all := fun w h => by
  obtain ⟨k, hk, rfl⟩ := List.mem_map.mp h
  have hk : k < 4 := List.mem_range.mp hk
  match k, hk with
  | 0, _ => exact tb_in (List.mem_append_right _ (List.mem_of_getElem? (i := 84) (by decide +kernel))) rfl
  | 1, _ => exact tb_in (List.mem_append_right _ (List.mem_of_getElem? (i := 86) (by decide +kernel))) rfl
  | 2, _ => exact tb_in (List.mem_append_right _ (List.mem_of_getElem? (i := 88) (by decide +kernel))) rfl
  | 3, _ => exact tb_in (List.mem_append_right _ (List.mem_of_getElem? (i := 90) (by decide +kernel))) rfl
  | n + 4, hk => exact absurd hk (by omega)
theorem cl_U : xm_cl 2 "SnapshotVault$Uniter" tn_U 4 ty_U := ⟨rfl, wu_U, by decide +kernel, by decide +kernel⟩
theorem wu_V : ∀ w ∈ u_ws "SnapshotVault" tn_V 3, w ∈ tb_all := fun w h => by
  obtain ⟨k, hk, rfl⟩ := List.mem_map.mp h
  have hk : k < 3 := List.mem_range.mp hk
  match k, hk with
  | 0, _ => exact tb_in (List.mem_append_right _ (List.mem_of_getElem? (i := 96) (by decide +kernel))) rfl
  | 1, _ => exact tb_in (List.mem_append_right _ (List.mem_of_getElem? (i := 98) (by decide +kernel))) rfl
  | 2, _ => exact tb_in (List.mem_append_right _ (List.mem_of_getElem? (i := 100) (by decide +kernel))) rfl
  | n + 3, hk => exact absurd hk (by omega)
theorem cl_V : xm_cl 3 "SnapshotVault" tn_V 3 ty_V := ⟨rfl, wu_V, by decide +kernel, by decide +kernel⟩
theorem wu_M : ∀ w ∈ u_ws "SnapshotVaultModel" tn_M 19, w ∈ tb_all := fun w h => by
  obtain ⟨k, hk, rfl⟩ := List.mem_map.mp h
  have hk : k < 19 := List.mem_range.mp hk
  match k, hk with
  | 0, _ => exact tb_in (List.mem_append_right _ (List.mem_of_getElem? (i := 364) (by decide +kernel))) rfl
  | 1, _ => exact tb_in (List.mem_append_right _ (List.mem_of_getElem? (i := 366) (by decide +kernel))) rfl
  | 2, _ => exact tb_in (List.mem_append_right _ (List.mem_of_getElem? (i := 368) (by decide +kernel))) rfl
  | 3, _ => exact tb_in (List.mem_append_right _ (List.mem_of_getElem? (i := 370) (by decide +kernel))) rfl
  | 4, _ => exact tb_in (List.mem_append_right _ (List.mem_of_getElem? (i := 372) (by decide +kernel))) rfl
  | 5, _ => exact tb_in (List.mem_append_right _ (List.mem_of_getElem? (i := 374) (by decide +kernel))) rfl
  | 6, _ => exact tb_in (List.mem_append_right _ (List.mem_of_getElem? (i := 376) (by decide +kernel))) rfl
  | 7, _ => exact tb_in (List.mem_append_right _ (List.mem_of_getElem? (i := 378) (by decide +kernel))) rfl
  | 8, _ => exact tb_in (List.mem_append_right _ (List.mem_of_getElem? (i := 380) (by decide +kernel))) rfl
  | 9, _ => exact tb_in (List.mem_append_right _ (List.mem_of_getElem? (i := 382) (by decide +kernel))) rfl
  | 10, _ => exact tb_in (List.mem_append_right _ (List.mem_of_getElem? (i := 384) (by decide +kernel))) rfl
  | 11, _ => exact tb_in (List.mem_append_right _ (List.mem_of_getElem? (i := 386) (by decide +kernel))) rfl
  | 12, _ => exact tb_in (List.mem_append_right _ (List.mem_of_getElem? (i := 388) (by decide +kernel))) rfl
  | 13, _ => exact tb_in (List.mem_append_right _ (List.mem_of_getElem? (i := 390) (by decide +kernel))) rfl
  | 14, _ => exact tb_in (List.mem_append_right _ (List.mem_of_getElem? (i := 392) (by decide +kernel))) rfl
  | 15, _ => exact tb_in (List.mem_append_right _ (List.mem_of_getElem? (i := 394) (by decide +kernel))) rfl
  | 16, _ => exact tb_in (List.mem_append_right _ (List.mem_of_getElem? (i := 396) (by decide +kernel))) rfl
  | 17, _ => exact tb_in (List.mem_append_right _ (List.mem_of_getElem? (i := 398) (by decide +kernel))) rfl
  | 18, _ => exact tb_in (List.mem_append_right _ (List.mem_of_getElem? (i := 400) (by decide +kernel))) rfl
  | n + 19, hk => exact absurd hk (by omega)
theorem cl_M : xm_cl 4 "SnapshotVaultModel" tn_M 19 ty_M := ⟨rfl, wu_M, by decide +kernel, by decide +kernel⟩
theorem ok_V_init : xm_ok m_V_init := ⟨tb_in (List.mem_append_right _ (List.mem_of_getElem? (i := 13) (by decide +kernel))) rfl, wi_V, by decide +kernel, ⟨by decide +kernel, by decide +kernel⟩, by decide⟩
theorem wm_V_init : Cond.instanceMethod (xm_y m_V_init) ∈ tb_all := tb_in (List.mem_append_right _ (List.mem_of_getElem? (i := 12) (by decide +kernel))) rfl
theorem ok_H_init : xm_ok m_H_init := ⟨tb_in (List.mem_append_right _ (List.mem_of_getElem? (i := 21) (by decide +kernel))) rfl, wi_H, by decide +kernel, ⟨by decide +kernel, by decide +kernel⟩, by decide⟩
theorem wm_H_init : Cond.instanceMethod (xm_y m_H_init) ∈ tb_all := tb_in (List.mem_append_right _ (List.mem_of_getElem? (i := 20) (by decide +kernel))) rfl
theorem ok_R_init : xm_ok m_R_init := ⟨tb_in (List.mem_append_right _ (List.mem_of_getElem? (i := 47) (by decide +kernel))) rfl, wi_R, by decide +kernel, ⟨by decide +kernel, by decide +kernel⟩, by decide⟩
theorem wm_R_init : Cond.instanceMethod (xm_y m_R_init) ∈ tb_all := tb_in (List.mem_append_right _ (List.mem_of_getElem? (i := 46) (by decide +kernel))) rfl
theorem ok_U_init : xm_ok m_U_init := ⟨tb_in (List.mem_append_right _ (List.mem_of_getElem? (i := 75) (by decide +kernel))) rfl, wi_U, by decide +kernel, ⟨by decide +kernel, by decide +kernel⟩, by decide⟩
theorem wm_U_init : Cond.instanceMethod (xm_y m_U_init) ∈ tb_all := tb_in (List.mem_append_right _ (List.mem_of_getElem? (i := 74) (by decide +kernel))) rfl
theorem ok_V_write : xm_ok m_V_write := ⟨tb_in (List.mem_append_right _ (List.mem_of_getElem? (i := 106) (by decide +kernel))) rfl, wi_V, by decide +kernel, ⟨by decide +kernel, by decide +kernel⟩, by decide⟩
theorem wm_V_write : Cond.instanceMethod (xm_y m_V_write) ∈ tb_all := tb_in (List.mem_append_right _ (List.mem_of_getElem? (i := 104) (by decide +kernel))) rfl
theorem we_V_write : Cond.selects (xm_y m_V_write).cls (xm_y m_V_write) (xm_y m_V_write) ∈ tb_all := tb_in (List.mem_append_right _ (List.mem_of_getElem? (i := 105) (by decide +kernel))) rfl
theorem ok_V_isRepository : xm_ok m_V_isRepository := ⟨tb_in (List.mem_append_right _ (List.mem_of_getElem? (i := 109) (by decide +kernel))) rfl, wi_V, by decide +kernel, ⟨by decide +kernel, by decide +kernel⟩, by decide⟩
theorem wt_V_isRepository : Cond.static (xm_y m_V_isRepository) ∈ tb_all := tb_in (List.mem_append_right _ (List.mem_of_getElem? (i := 108) (by decide +kernel))) rfl
theorem ok_V_isFile : xm_ok m_V_isFile := ⟨tb_in (List.mem_append_right _ (List.mem_of_getElem? (i := 112) (by decide +kernel))) rfl, wi_V, by decide +kernel, ⟨by decide +kernel, by decide +kernel⟩, by decide⟩
theorem wt_V_isFile : Cond.static (xm_y m_V_isFile) ∈ tb_all := tb_in (List.mem_append_right _ (List.mem_of_getElem? (i := 111) (by decide +kernel))) rfl
theorem ok_T_pack : xm_ok m_T_pack := ⟨tb_in (List.mem_append_right _ (List.mem_of_getElem? (i := 115) (by decide +kernel))) rfl, wi_T, by decide +kernel, ⟨by decide +kernel, by decide +kernel⟩, by decide⟩
theorem wt_T_pack : Cond.static (xm_y m_T_pack) ∈ tb_all := tb_in (List.mem_append_right _ (List.mem_of_getElem? (i := 114) (by decide +kernel))) rfl
theorem ok_V_remove : xm_ok m_V_remove := ⟨tb_in (List.mem_append_right _ (List.mem_of_getElem? (i := 119) (by decide +kernel))) rfl, wi_V, by decide +kernel, ⟨by decide +kernel, by decide +kernel⟩, by decide⟩
theorem wm_V_remove : Cond.instanceMethod (xm_y m_V_remove) ∈ tb_all := tb_in (List.mem_append_right _ (List.mem_of_getElem? (i := 117) (by decide +kernel))) rfl
theorem we_V_remove : Cond.selects (xm_y m_V_remove).cls (xm_y m_V_remove) (xm_y m_V_remove) ∈ tb_all := tb_in (List.mem_append_right _ (List.mem_of_getElem? (i := 118) (by decide +kernel))) rfl
theorem ok_V_stage : xm_ok m_V_stage := ⟨tb_in (List.mem_append_right _ (List.mem_of_getElem? (i := 124) (by decide +kernel))) rfl, wi_V, by decide +kernel, ⟨by decide +kernel, by decide +kernel⟩, by decide⟩
theorem wm_V_stage : Cond.instanceMethod (xm_y m_V_stage) ∈ tb_all := tb_in (List.mem_append_right _ (List.mem_of_getElem? (i := 122) (by decide +kernel))) rfl
theorem we_V_stage : Cond.selects (xm_y m_V_stage).cls (xm_y m_V_stage) (xm_y m_V_stage) ∈ tb_all := tb_in (List.mem_append_right _ (List.mem_of_getElem? (i := 123) (by decide +kernel))) rfl
theorem ok_V_commit : xm_ok m_V_commit := ⟨tb_in (List.mem_append_right _ (List.mem_of_getElem? (i := 128) (by decide +kernel))) rfl, wi_V, by decide +kernel, ⟨by decide +kernel, by decide +kernel⟩, by decide⟩
theorem wm_V_commit : Cond.instanceMethod (xm_y m_V_commit) ∈ tb_all := tb_in (List.mem_append_right _ (List.mem_of_getElem? (i := 126) (by decide +kernel))) rfl
theorem we_V_commit : Cond.selects (xm_y m_V_commit).cls (xm_y m_V_commit) (xm_y m_V_commit) ∈ tb_all := tb_in (List.mem_append_right _ (List.mem_of_getElem? (i := 127) (by decide +kernel))) rfl
theorem ok_R_head : xm_ok m_R_head := ⟨tb_in (List.mem_append_right _ (List.mem_of_getElem? (i := 132) (by decide +kernel))) rfl, wi_R, by decide +kernel, ⟨by decide +kernel, by decide +kernel⟩, by decide⟩
theorem wm_R_head : Cond.instanceMethod (xm_y m_R_head) ∈ tb_all := tb_in (List.mem_append_right _ (List.mem_of_getElem? (i := 130) (by decide +kernel))) rfl
theorem we_R_head : Cond.selects (xm_y m_R_head).cls (xm_y m_R_head) (xm_y m_R_head) ∈ tb_all := tb_in (List.mem_append_right _ (List.mem_of_getElem? (i := 131) (by decide +kernel))) rfl
theorem ok_H_hasSnapshot : xm_ok m_H_hasSnapshot := ⟨tb_in (List.mem_append_right _ (List.mem_of_getElem? (i := 136) (by decide +kernel))) rfl, wi_H, by decide +kernel, ⟨by decide +kernel, by decide +kernel⟩, by decide⟩
theorem wm_H_hasSnapshot : Cond.instanceMethod (xm_y m_H_hasSnapshot) ∈ tb_all := tb_in (List.mem_append_right _ (List.mem_of_getElem? (i := 134) (by decide +kernel))) rfl
theorem we_H_hasSnapshot : Cond.selects (xm_y m_H_hasSnapshot).cls (xm_y m_H_hasSnapshot) (xm_y m_H_hasSnapshot) ∈ tb_all := tb_in (List.mem_append_right _ (List.mem_of_getElem? (i := 135) (by decide +kernel))) rfl
theorem ok_H_textOf : xm_ok m_H_textOf := ⟨tb_in (List.mem_append_right _ (List.mem_of_getElem? (i := 140) (by decide +kernel))) rfl, wi_H, by decide +kernel, ⟨by decide +kernel, by decide +kernel⟩, by decide⟩
theorem wm_H_textOf : Cond.instanceMethod (xm_y m_H_textOf) ∈ tb_all := tb_in (List.mem_append_right _ (List.mem_of_getElem? (i := 138) (by decide +kernel))) rfl
theorem we_H_textOf : Cond.selects (xm_y m_H_textOf).cls (xm_y m_H_textOf) (xm_y m_H_textOf) ∈ tb_all := tb_in (List.mem_append_right _ (List.mem_of_getElem? (i := 139) (by decide +kernel))) rfl
theorem ok_H_isMade : xm_ok m_H_isMade := ⟨tb_in (List.mem_append_right _ (List.mem_of_getElem? (i := 144) (by decide +kernel))) rfl, wi_H, by decide +kernel, ⟨by decide +kernel, by decide +kernel⟩, by decide⟩
theorem wm_H_isMade : Cond.instanceMethod (xm_y m_H_isMade) ∈ tb_all := tb_in (List.mem_append_right _ (List.mem_of_getElem? (i := 142) (by decide +kernel))) rfl
theorem we_H_isMade : Cond.selects (xm_y m_H_isMade).cls (xm_y m_H_isMade) (xm_y m_H_isMade) ∈ tb_all := tb_in (List.mem_append_right _ (List.mem_of_getElem? (i := 143) (by decide +kernel))) rfl
theorem ok_H_add : xm_ok m_H_add := ⟨tb_in (List.mem_append_right _ (List.mem_of_getElem? (i := 149) (by decide +kernel))) rfl, wi_H, by decide +kernel, ⟨by decide +kernel, by decide +kernel⟩, by decide⟩
theorem wm_H_add : Cond.instanceMethod (xm_y m_H_add) ∈ tb_all := tb_in (List.mem_append_right _ (List.mem_of_getElem? (i := 147) (by decide +kernel))) rfl
theorem we_H_add : Cond.selects (xm_y m_H_add).cls (xm_y m_H_add) (xm_y m_H_add) ∈ tb_all := tb_in (List.mem_append_right _ (List.mem_of_getElem? (i := 148) (by decide +kernel))) rfl
theorem ok_H_reachOf : xm_ok m_H_reachOf := ⟨tb_in (List.mem_append_right _ (List.mem_of_getElem? (i := 153) (by decide +kernel))) rfl, wi_H, by decide +kernel, ⟨by decide +kernel, by decide +kernel⟩, by decide⟩
theorem wm_H_reachOf : Cond.instanceMethod (xm_y m_H_reachOf) ∈ tb_all := tb_in (List.mem_append_right _ (List.mem_of_getElem? (i := 151) (by decide +kernel))) rfl
theorem we_H_reachOf : Cond.selects (xm_y m_H_reachOf).cls (xm_y m_H_reachOf) (xm_y m_H_reachOf) ∈ tb_all := tb_in (List.mem_append_right _ (List.mem_of_getElem? (i := 152) (by decide +kernel))) rfl
theorem ok_V_branch : xm_ok m_V_branch := ⟨tb_in (List.mem_append_right _ (List.mem_of_getElem? (i := 158) (by decide +kernel))) rfl, wi_V, by decide +kernel, ⟨by decide +kernel, by decide +kernel⟩, by decide⟩
theorem wm_V_branch : Cond.instanceMethod (xm_y m_V_branch) ∈ tb_all := tb_in (List.mem_append_right _ (List.mem_of_getElem? (i := 156) (by decide +kernel))) rfl
theorem we_V_branch : Cond.selects (xm_y m_V_branch).cls (xm_y m_V_branch) (xm_y m_V_branch) ∈ tb_all := tb_in (List.mem_append_right _ (List.mem_of_getElem? (i := 157) (by decide +kernel))) rfl
theorem ok_V_isBranch : xm_ok m_V_isBranch := ⟨tb_in (List.mem_append_right _ (List.mem_of_getElem? (i := 161) (by decide +kernel))) rfl, wi_V, by decide +kernel, ⟨by decide +kernel, by decide +kernel⟩, by decide⟩
theorem wt_V_isBranch : Cond.static (xm_y m_V_isBranch) ∈ tb_all := tb_in (List.mem_append_right _ (List.mem_of_getElem? (i := 160) (by decide +kernel))) rfl
theorem ok_V_drop : xm_ok m_V_drop := ⟨tb_in (List.mem_append_right _ (List.mem_of_getElem? (i := 165) (by decide +kernel))) rfl, wi_V, by decide +kernel, ⟨by decide +kernel, by decide +kernel⟩, by decide⟩
theorem wm_V_drop : Cond.instanceMethod (xm_y m_V_drop) ∈ tb_all := tb_in (List.mem_append_right _ (List.mem_of_getElem? (i := 163) (by decide +kernel))) rfl
theorem we_V_drop : Cond.selects (xm_y m_V_drop).cls (xm_y m_V_drop) (xm_y m_V_drop) ∈ tb_all := tb_in (List.mem_append_right _ (List.mem_of_getElem? (i := 164) (by decide +kernel))) rfl
theorem ok_V_checkout : xm_ok m_V_checkout := ⟨tb_in (List.mem_append_right _ (List.mem_of_getElem? (i := 169) (by decide +kernel))) rfl, wi_V, by decide +kernel, ⟨by decide +kernel, by decide +kernel⟩, by decide⟩
theorem wm_V_checkout : Cond.instanceMethod (xm_y m_V_checkout) ∈ tb_all := tb_in (List.mem_append_right _ (List.mem_of_getElem? (i := 167) (by decide +kernel))) rfl
theorem we_V_checkout : Cond.selects (xm_y m_V_checkout).cls (xm_y m_V_checkout) (xm_y m_V_checkout) ∈ tb_all := tb_in (List.mem_append_right _ (List.mem_of_getElem? (i := 168) (by decide +kernel))) rfl
theorem ok_V_isClean : xm_ok m_V_isClean := ⟨tb_in (List.mem_append_right _ (List.mem_of_getElem? (i := 173) (by decide +kernel))) rfl, wi_V, by decide +kernel, ⟨by decide +kernel, by decide +kernel⟩, by decide⟩
theorem wm_V_isClean : Cond.instanceMethod (xm_y m_V_isClean) ∈ tb_all := tb_in (List.mem_append_right _ (List.mem_of_getElem? (i := 172) (by decide +kernel))) rfl
theorem we_V_isClean : Cond.selects (xm_y m_V_isClean).cls (xm_y m_V_isClean) (xm_y m_V_isClean) ∈ tb_all := tb_in (List.mem_append_left _ (List.mem_of_getElem? (i := 0) (by decide +kernel))) rfl
theorem ok_V_moveTo : xm_ok m_V_moveTo := ⟨tb_in (List.mem_append_right _ (List.mem_of_getElem? (i := 177) (by decide +kernel))) rfl, wi_V, by decide +kernel, ⟨by decide +kernel, by decide +kernel⟩, by decide⟩
theorem wm_V_moveTo : Cond.instanceMethod (xm_y m_V_moveTo) ∈ tb_all := tb_in (List.mem_append_right _ (List.mem_of_getElem? (i := 176) (by decide +kernel))) rfl
theorem we_V_moveTo : Cond.selects (xm_y m_V_moveTo).cls (xm_y m_V_moveTo) (xm_y m_V_moveTo) ∈ tb_all := tb_in (List.mem_append_left _ (List.mem_of_getElem? (i := 1) (by decide +kernel))) rfl
theorem ok_H_copySnapshot : xm_ok m_H_copySnapshot := ⟨tb_in (List.mem_append_right _ (List.mem_of_getElem? (i := 181) (by decide +kernel))) rfl, wi_H, by decide +kernel, ⟨by decide +kernel, by decide +kernel⟩, by decide⟩
theorem wm_H_copySnapshot : Cond.instanceMethod (xm_y m_H_copySnapshot) ∈ tb_all := tb_in (List.mem_append_right _ (List.mem_of_getElem? (i := 179) (by decide +kernel))) rfl
theorem we_H_copySnapshot : Cond.selects (xm_y m_H_copySnapshot).cls (xm_y m_H_copySnapshot) (xm_y m_H_copySnapshot) ∈ tb_all := tb_in (List.mem_append_right _ (List.mem_of_getElem? (i := 180) (by decide +kernel))) rfl
theorem ok_V_merge : xm_ok m_V_merge := ⟨tb_in (List.mem_append_right _ (List.mem_of_getElem? (i := 185) (by decide +kernel))) rfl, wi_V, by decide +kernel, ⟨by decide +kernel, by decide +kernel⟩, by decide⟩
theorem wm_V_merge : Cond.instanceMethod (xm_y m_V_merge) ∈ tb_all := tb_in (List.mem_append_right _ (List.mem_of_getElem? (i := 183) (by decide +kernel))) rfl
theorem we_V_merge : Cond.selects (xm_y m_V_merge).cls (xm_y m_V_merge) (xm_y m_V_merge) ∈ tb_all := tb_in (List.mem_append_right _ (List.mem_of_getElem? (i := 184) (by decide +kernel))) rfl
theorem ok_V_refusalToChangeHead : xm_ok m_V_refusalToChangeHead := ⟨tb_in (List.mem_append_right _ (List.mem_of_getElem? (i := 189) (by decide +kernel))) rfl, wi_V, by decide +kernel, ⟨by decide +kernel, by decide +kernel⟩, by decide⟩
theorem wm_V_refusalToChangeHead : Cond.instanceMethod (xm_y m_V_refusalToChangeHead) ∈ tb_all := tb_in (List.mem_append_right _ (List.mem_of_getElem? (i := 188) (by decide +kernel))) rfl
theorem we_V_refusalToChangeHead : Cond.selects (xm_y m_V_refusalToChangeHead).cls (xm_y m_V_refusalToChangeHead) (xm_y m_V_refusalToChangeHead) ∈ tb_all := tb_in (List.mem_append_left _ (List.mem_of_getElem? (i := 2) (by decide +kernel))) rfl
theorem ok_H_reaches : xm_ok m_H_reaches := ⟨tb_in (List.mem_append_right _ (List.mem_of_getElem? (i := 193) (by decide +kernel))) rfl, wi_H, by decide +kernel, ⟨by decide +kernel, by decide +kernel⟩, by decide⟩
theorem wm_H_reaches : Cond.instanceMethod (xm_y m_H_reaches) ∈ tb_all := tb_in (List.mem_append_right _ (List.mem_of_getElem? (i := 191) (by decide +kernel))) rfl
theorem we_H_reaches : Cond.selects (xm_y m_H_reaches).cls (xm_y m_H_reaches) (xm_y m_H_reaches) ∈ tb_all := tb_in (List.mem_append_right _ (List.mem_of_getElem? (i := 192) (by decide +kernel))) rfl
theorem ok_H_isIn : xm_ok m_H_isIn := ⟨tb_in (List.mem_append_right _ (List.mem_of_getElem? (i := 196) (by decide +kernel))) rfl, wi_H, by decide +kernel, ⟨by decide +kernel, by decide +kernel⟩, by decide⟩
theorem wt_H_isIn : Cond.static (xm_y m_H_isIn) ∈ tb_all := tb_in (List.mem_append_right _ (List.mem_of_getElem? (i := 195) (by decide +kernel))) rfl
theorem ok_V_joinCommits : xm_ok m_V_joinCommits := ⟨tb_in (List.mem_append_right _ (List.mem_of_getElem? (i := 200) (by decide +kernel))) rfl, wi_V, by decide +kernel, ⟨by decide +kernel, by decide +kernel⟩, by decide⟩
theorem wm_V_joinCommits : Cond.instanceMethod (xm_y m_V_joinCommits) ∈ tb_all := tb_in (List.mem_append_right _ (List.mem_of_getElem? (i := 199) (by decide +kernel))) rfl
theorem we_V_joinCommits : Cond.selects (xm_y m_V_joinCommits).cls (xm_y m_V_joinCommits) (xm_y m_V_joinCommits) ∈ tb_all := tb_in (List.mem_append_left _ (List.mem_of_getElem? (i := 3) (by decide +kernel))) rfl
theorem ok_H_baseOf : xm_ok m_H_baseOf := ⟨tb_in (List.mem_append_right _ (List.mem_of_getElem? (i := 204) (by decide +kernel))) rfl, wi_H, by decide +kernel, ⟨by decide +kernel, by decide +kernel⟩, by decide⟩
theorem wm_H_baseOf : Cond.instanceMethod (xm_y m_H_baseOf) ∈ tb_all := tb_in (List.mem_append_right _ (List.mem_of_getElem? (i := 202) (by decide +kernel))) rfl
theorem we_H_baseOf : Cond.selects (xm_y m_H_baseOf).cls (xm_y m_H_baseOf) (xm_y m_H_baseOf) ∈ tb_all := tb_in (List.mem_append_right _ (List.mem_of_getElem? (i := 203) (by decide +kernel))) rfl
theorem ok_H_isReachedByLater : xm_ok m_H_isReachedByLater := ⟨tb_in (List.mem_append_right _ (List.mem_of_getElem? (i := 208) (by decide +kernel))) rfl, wi_H, by decide +kernel, ⟨by decide +kernel, by decide +kernel⟩, by decide⟩
theorem wm_H_isReachedByLater : Cond.instanceMethod (xm_y m_H_isReachedByLater) ∈ tb_all := tb_in (List.mem_append_right _ (List.mem_of_getElem? (i := 207) (by decide +kernel))) rfl
theorem we_H_isReachedByLater : Cond.selects (xm_y m_H_isReachedByLater).cls (xm_y m_H_isReachedByLater) (xm_y m_H_isReachedByLater) ∈ tb_all := tb_in (List.mem_append_left _ (List.mem_of_getElem? (i := 4) (by decide +kernel))) rfl
theorem ok_U_uniteSnapshots : xm_ok m_U_uniteSnapshots := ⟨tb_in (List.mem_append_right _ (List.mem_of_getElem? (i := 213) (by decide +kernel))) rfl, wi_U, by decide +kernel, ⟨by decide +kernel, by decide +kernel⟩, by decide⟩
theorem wm_U_uniteSnapshots : Cond.instanceMethod (xm_y m_U_uniteSnapshots) ∈ tb_all := tb_in (List.mem_append_right _ (List.mem_of_getElem? (i := 211) (by decide +kernel))) rfl
theorem we_U_uniteSnapshots : Cond.selects (xm_y m_U_uniteSnapshots).cls (xm_y m_U_uniteSnapshots) (xm_y m_U_uniteSnapshots) ∈ tb_all := tb_in (List.mem_append_right _ (List.mem_of_getElem? (i := 212) (by decide +kernel))) rfl
theorem ok_U_take : xm_ok m_U_take := ⟨tb_in (List.mem_append_right _ (List.mem_of_getElem? (i := 217) (by decide +kernel))) rfl, wi_U, by decide +kernel, ⟨by decide +kernel, by decide +kernel⟩, by decide⟩
theorem wt_U_take : Cond.static (xm_y m_U_take) ∈ tb_all := tb_in (List.mem_append_right _ (List.mem_of_getElem? (i := 216) (by decide +kernel))) rfl
theorem ok_U_uniteTexts : xm_ok m_U_uniteTexts := ⟨tb_in (List.mem_append_right _ (List.mem_of_getElem? (i := 223) (by decide +kernel))) rfl, wi_U, by decide +kernel, ⟨by decide +kernel, by decide +kernel⟩, by decide⟩
theorem wm_U_uniteTexts : Cond.instanceMethod (xm_y m_U_uniteTexts) ∈ tb_all := tb_in (List.mem_append_right _ (List.mem_of_getElem? (i := 222) (by decide +kernel))) rfl
theorem we_U_uniteTexts : Cond.selects (xm_y m_U_uniteTexts).cls (xm_y m_U_uniteTexts) (xm_y m_U_uniteTexts) ∈ tb_all := tb_in (List.mem_append_left _ (List.mem_of_getElem? (i := 5) (by decide +kernel))) rfl
theorem ok_U_countCommon : xm_ok m_U_countCommon := ⟨tb_in (List.mem_append_right _ (List.mem_of_getElem? (i := 227) (by decide +kernel))) rfl, wi_U, by decide +kernel, ⟨by decide +kernel, by decide +kernel⟩, by decide⟩
theorem wm_U_countCommon : Cond.instanceMethod (xm_y m_U_countCommon) ∈ tb_all := tb_in (List.mem_append_right _ (List.mem_of_getElem? (i := 226) (by decide +kernel))) rfl
theorem we_U_countCommon : Cond.selects (xm_y m_U_countCommon).cls (xm_y m_U_countCommon) (xm_y m_U_countCommon) ∈ tb_all := tb_in (List.mem_append_left _ (List.mem_of_getElem? (i := 6) (by decide +kernel))) rfl
theorem ok_T_countOf : xm_ok m_T_countOf := ⟨tb_in (List.mem_append_right _ (List.mem_of_getElem? (i := 230) (by decide +kernel))) rfl, wi_T, by decide +kernel, ⟨by decide +kernel, by decide +kernel⟩, by decide⟩
theorem wt_T_countOf : Cond.static (xm_y m_T_countOf) ∈ tb_all := tb_in (List.mem_append_right _ (List.mem_of_getElem? (i := 229) (by decide +kernel))) rfl
theorem ok_T_lineAt : xm_ok m_T_lineAt := ⟨tb_in (List.mem_append_right _ (List.mem_of_getElem? (i := 233) (by decide +kernel))) rfl, wi_T, by decide +kernel, ⟨by decide +kernel, by decide +kernel⟩, by decide⟩
theorem wt_T_lineAt : Cond.static (xm_y m_T_lineAt) ∈ tb_all := tb_in (List.mem_append_right _ (List.mem_of_getElem? (i := 232) (by decide +kernel))) rfl
theorem ok_U_matchLines : xm_ok m_U_matchLines := ⟨tb_in (List.mem_append_right _ (List.mem_of_getElem? (i := 241) (by decide +kernel))) rfl, wi_U, by decide +kernel, ⟨by decide +kernel, by decide +kernel⟩, by decide⟩
theorem wm_U_matchLines : Cond.instanceMethod (xm_y m_U_matchLines) ∈ tb_all := tb_in (List.mem_append_right _ (List.mem_of_getElem? (i := 240) (by decide +kernel))) rfl
theorem we_U_matchLines : Cond.selects (xm_y m_U_matchLines).cls (xm_y m_U_matchLines) (xm_y m_U_matchLines) ∈ tb_all := tb_in (List.mem_append_left _ (List.mem_of_getElem? (i := 7) (by decide +kernel))) rfl
theorem ok_T_piece : xm_ok m_T_piece := ⟨tb_in (List.mem_append_right _ (List.mem_of_getElem? (i := 244) (by decide +kernel))) rfl, wi_T, by decide +kernel, ⟨by decide +kernel, by decide +kernel⟩, by decide⟩
theorem wt_T_piece : Cond.static (xm_y m_T_piece) ∈ tb_all := tb_in (List.mem_append_right _ (List.mem_of_getElem? (i := 243) (by decide +kernel))) rfl
theorem ok_T_join : xm_ok m_T_join := ⟨tb_in (List.mem_append_right _ (List.mem_of_getElem? (i := 248) (by decide +kernel))) rfl, wi_T, by decide +kernel, ⟨by decide +kernel, by decide +kernel⟩, by decide⟩
theorem wt_T_join : Cond.static (xm_y m_T_join) ∈ tb_all := tb_in (List.mem_append_right _ (List.mem_of_getElem? (i := 247) (by decide +kernel))) rfl
theorem ok_V_pick : xm_ok m_V_pick := ⟨tb_in (List.mem_append_right _ (List.mem_of_getElem? (i := 255) (by decide +kernel))) rfl, wi_V, by decide +kernel, ⟨by decide +kernel, by decide +kernel⟩, by decide⟩
theorem wm_V_pick : Cond.instanceMethod (xm_y m_V_pick) ∈ tb_all := tb_in (List.mem_append_right _ (List.mem_of_getElem? (i := 253) (by decide +kernel))) rfl
theorem we_V_pick : Cond.selects (xm_y m_V_pick).cls (xm_y m_V_pick) (xm_y m_V_pick) ∈ tb_all := tb_in (List.mem_append_right _ (List.mem_of_getElem? (i := 254) (by decide +kernel))) rfl
theorem ok_V_isHeld : xm_ok m_V_isHeld := ⟨tb_in (List.mem_append_right _ (List.mem_of_getElem? (i := 259) (by decide +kernel))) rfl, wi_V, by decide +kernel, ⟨by decide +kernel, by decide +kernel⟩, by decide⟩
theorem wm_V_isHeld : Cond.instanceMethod (xm_y m_V_isHeld) ∈ tb_all := tb_in (List.mem_append_right _ (List.mem_of_getElem? (i := 258) (by decide +kernel))) rfl
theorem we_V_isHeld : Cond.selects (xm_y m_V_isHeld).cls (xm_y m_V_isHeld) (xm_y m_V_isHeld) ∈ tb_all := tb_in (List.mem_append_left _ (List.mem_of_getElem? (i := 8) (by decide +kernel))) rfl
theorem ok_V_doAgain : xm_ok m_V_doAgain := ⟨tb_in (List.mem_append_right _ (List.mem_of_getElem? (i := 265) (by decide +kernel))) rfl, wi_V, by decide +kernel, ⟨by decide +kernel, by decide +kernel⟩, by decide⟩
theorem wm_V_doAgain : Cond.instanceMethod (xm_y m_V_doAgain) ∈ tb_all := tb_in (List.mem_append_right _ (List.mem_of_getElem? (i := 264) (by decide +kernel))) rfl
theorem we_V_doAgain : Cond.selects (xm_y m_V_doAgain).cls (xm_y m_V_doAgain) (xm_y m_V_doAgain) ∈ tb_all := tb_in (List.mem_append_left _ (List.mem_of_getElem? (i := 9) (by decide +kernel))) rfl
theorem ok_H_secondParentOf : xm_ok m_H_secondParentOf := ⟨tb_in (List.mem_append_right _ (List.mem_of_getElem? (i := 269) (by decide +kernel))) rfl, wi_H, by decide +kernel, ⟨by decide +kernel, by decide +kernel⟩, by decide⟩
theorem wm_H_secondParentOf : Cond.instanceMethod (xm_y m_H_secondParentOf) ∈ tb_all := tb_in (List.mem_append_right _ (List.mem_of_getElem? (i := 267) (by decide +kernel))) rfl
theorem we_H_secondParentOf : Cond.selects (xm_y m_H_secondParentOf).cls (xm_y m_H_secondParentOf) (xm_y m_H_secondParentOf) ∈ tb_all := tb_in (List.mem_append_right _ (List.mem_of_getElem? (i := 268) (by decide +kernel))) rfl
theorem ok_H_firstParentOf : xm_ok m_H_firstParentOf := ⟨tb_in (List.mem_append_right _ (List.mem_of_getElem? (i := 273) (by decide +kernel))) rfl, wi_H, by decide +kernel, ⟨by decide +kernel, by decide +kernel⟩, by decide⟩
theorem wm_H_firstParentOf : Cond.instanceMethod (xm_y m_H_firstParentOf) ∈ tb_all := tb_in (List.mem_append_right _ (List.mem_of_getElem? (i := 271) (by decide +kernel))) rfl
theorem we_H_firstParentOf : Cond.selects (xm_y m_H_firstParentOf).cls (xm_y m_H_firstParentOf) (xm_y m_H_firstParentOf) ∈ tb_all := tb_in (List.mem_append_right _ (List.mem_of_getElem? (i := 272) (by decide +kernel))) rfl
theorem ok_V_rebase : xm_ok m_V_rebase := ⟨tb_in (List.mem_append_right _ (List.mem_of_getElem? (i := 277) (by decide +kernel))) rfl, wi_V, by decide +kernel, ⟨by decide +kernel, by decide +kernel⟩, by decide⟩
theorem wm_V_rebase : Cond.instanceMethod (xm_y m_V_rebase) ∈ tb_all := tb_in (List.mem_append_right _ (List.mem_of_getElem? (i := 275) (by decide +kernel))) rfl
theorem we_V_rebase : Cond.selects (xm_y m_V_rebase).cls (xm_y m_V_rebase) (xm_y m_V_rebase) ∈ tb_all := tb_in (List.mem_append_right _ (List.mem_of_getElem? (i := 276) (by decide +kernel))) rfl
theorem ok_V_doAllAgain : xm_ok m_V_doAllAgain := ⟨tb_in (List.mem_append_right _ (List.mem_of_getElem? (i := 282) (by decide +kernel))) rfl, wi_V, by decide +kernel, ⟨by decide +kernel, by decide +kernel⟩, by decide⟩
theorem wm_V_doAllAgain : Cond.instanceMethod (xm_y m_V_doAllAgain) ∈ tb_all := tb_in (List.mem_append_right _ (List.mem_of_getElem? (i := 281) (by decide +kernel))) rfl
theorem we_V_doAllAgain : Cond.selects (xm_y m_V_doAllAgain).cls (xm_y m_V_doAllAgain) (xm_y m_V_doAllAgain) ∈ tb_all := tb_in (List.mem_append_left _ (List.mem_of_getElem? (i := 10) (by decide +kernel))) rfl
theorem ok_H_cutBackTo : xm_ok m_H_cutBackTo := ⟨tb_in (List.mem_append_right _ (List.mem_of_getElem? (i := 286) (by decide +kernel))) rfl, wi_H, by decide +kernel, ⟨by decide +kernel, by decide +kernel⟩, by decide⟩
theorem wm_H_cutBackTo : Cond.instanceMethod (xm_y m_H_cutBackTo) ∈ tb_all := tb_in (List.mem_append_right _ (List.mem_of_getElem? (i := 284) (by decide +kernel))) rfl
theorem we_H_cutBackTo : Cond.selects (xm_y m_H_cutBackTo).cls (xm_y m_H_cutBackTo) (xm_y m_H_cutBackTo) ∈ tb_all := tb_in (List.mem_append_right _ (List.mem_of_getElem? (i := 285) (by decide +kernel))) rfl
theorem ok_V_collect : xm_ok m_V_collect := ⟨tb_in (List.mem_append_right _ (List.mem_of_getElem? (i := 290) (by decide +kernel))) rfl, wi_V, by decide +kernel, ⟨by decide +kernel, by decide +kernel⟩, by decide⟩
theorem wm_V_collect : Cond.instanceMethod (xm_y m_V_collect) ∈ tb_all := tb_in (List.mem_append_right _ (List.mem_of_getElem? (i := 288) (by decide +kernel))) rfl
theorem we_V_collect : Cond.selects (xm_y m_V_collect).cls (xm_y m_V_collect) (xm_y m_V_collect) ∈ tb_all := tb_in (List.mem_append_right _ (List.mem_of_getElem? (i := 289) (by decide +kernel))) rfl
theorem ok_J_bitCount : xm_ok m_J_bitCount := ⟨tb_in (List.mem_append_right _ (List.mem_of_getElem? (i := 293) (by decide +kernel))) rfl, wi_J, by decide +kernel, ⟨by decide +kernel, by decide +kernel⟩, by decide⟩
theorem wt_J_bitCount : Cond.static (xm_y m_J_bitCount) ∈ tb_all := tb_in (List.mem_append_right _ (List.mem_of_getElem? (i := 292) (by decide +kernel))) rfl
theorem ok_V_send : xm_ok m_V_send := ⟨tb_in (List.mem_append_right _ (List.mem_of_getElem? (i := 300) (by decide +kernel))) rfl, wi_V, by decide +kernel, ⟨by decide +kernel, by decide +kernel⟩, by decide⟩
theorem wm_V_send : Cond.instanceMethod (xm_y m_V_send) ∈ tb_all := tb_in (List.mem_append_right _ (List.mem_of_getElem? (i := 298) (by decide +kernel))) rfl
theorem we_V_send : Cond.selects (xm_y m_V_send).cls (xm_y m_V_send) (xm_y m_V_send) ∈ tb_all := tb_in (List.mem_append_right _ (List.mem_of_getElem? (i := 299) (by decide +kernel))) rfl
theorem ok_V_current : xm_ok m_V_current := ⟨tb_in (List.mem_append_right _ (List.mem_of_getElem? (i := 304) (by decide +kernel))) rfl, wi_V, by decide +kernel, ⟨by decide +kernel, by decide +kernel⟩, by decide⟩
theorem wm_V_current : Cond.instanceMethod (xm_y m_V_current) ∈ tb_all := tb_in (List.mem_append_right _ (List.mem_of_getElem? (i := 302) (by decide +kernel))) rfl
theorem we_V_current : Cond.selects (xm_y m_V_current).cls (xm_y m_V_current) (xm_y m_V_current) ∈ tb_all := tb_in (List.mem_append_right _ (List.mem_of_getElem? (i := 303) (by decide +kernel))) rfl
theorem ok_V_tip : xm_ok m_V_tip := ⟨tb_in (List.mem_append_right _ (List.mem_of_getElem? (i := 308) (by decide +kernel))) rfl, wi_V, by decide +kernel, ⟨by decide +kernel, by decide +kernel⟩, by decide⟩
theorem wm_V_tip : Cond.instanceMethod (xm_y m_V_tip) ∈ tb_all := tb_in (List.mem_append_right _ (List.mem_of_getElem? (i := 306) (by decide +kernel))) rfl
theorem we_V_tip : Cond.selects (xm_y m_V_tip).cls (xm_y m_V_tip) (xm_y m_V_tip) ∈ tb_all := tb_in (List.mem_append_right _ (List.mem_of_getElem? (i := 307) (by decide +kernel))) rfl
theorem ok_V_holds : xm_ok m_V_holds := ⟨tb_in (List.mem_append_right _ (List.mem_of_getElem? (i := 312) (by decide +kernel))) rfl, wi_V, by decide +kernel, ⟨by decide +kernel, by decide +kernel⟩, by decide⟩
theorem wm_V_holds : Cond.instanceMethod (xm_y m_V_holds) ∈ tb_all := tb_in (List.mem_append_right _ (List.mem_of_getElem? (i := 310) (by decide +kernel))) rfl
theorem we_V_holds : Cond.selects (xm_y m_V_holds).cls (xm_y m_V_holds) (xm_y m_V_holds) ∈ tb_all := tb_in (List.mem_append_right _ (List.mem_of_getElem? (i := 311) (by decide +kernel))) rfl
theorem ok_V_commits : xm_ok m_V_commits := ⟨tb_in (List.mem_append_right _ (List.mem_of_getElem? (i := 316) (by decide +kernel))) rfl, wi_V, by decide +kernel, ⟨by decide +kernel, by decide +kernel⟩, by decide⟩
theorem wm_V_commits : Cond.instanceMethod (xm_y m_V_commits) ∈ tb_all := tb_in (List.mem_append_right _ (List.mem_of_getElem? (i := 314) (by decide +kernel))) rfl
theorem we_V_commits : Cond.selects (xm_y m_V_commits).cls (xm_y m_V_commits) (xm_y m_V_commits) ∈ tb_all := tb_in (List.mem_append_right _ (List.mem_of_getElem? (i := 315) (by decide +kernel))) rfl
theorem ok_V_parent : xm_ok m_V_parent := ⟨tb_in (List.mem_append_right _ (List.mem_of_getElem? (i := 320) (by decide +kernel))) rfl, wi_V, by decide +kernel, ⟨by decide +kernel, by decide +kernel⟩, by decide⟩
theorem wm_V_parent : Cond.instanceMethod (xm_y m_V_parent) ∈ tb_all := tb_in (List.mem_append_right _ (List.mem_of_getElem? (i := 318) (by decide +kernel))) rfl
theorem we_V_parent : Cond.selects (xm_y m_V_parent).cls (xm_y m_V_parent) (xm_y m_V_parent) ∈ tb_all := tb_in (List.mem_append_right _ (List.mem_of_getElem? (i := 319) (by decide +kernel))) rfl
theorem ok_V_text : xm_ok m_V_text := ⟨tb_in (List.mem_append_right _ (List.mem_of_getElem? (i := 324) (by decide +kernel))) rfl, wi_V, by decide +kernel, ⟨by decide +kernel, by decide +kernel⟩, by decide⟩
theorem wm_V_text : Cond.instanceMethod (xm_y m_V_text) ∈ tb_all := tb_in (List.mem_append_right _ (List.mem_of_getElem? (i := 322) (by decide +kernel))) rfl
theorem we_V_text : Cond.selects (xm_y m_V_text).cls (xm_y m_V_text) (xm_y m_V_text) ∈ tb_all := tb_in (List.mem_append_right _ (List.mem_of_getElem? (i := 323) (by decide +kernel))) rfl
theorem ok_V_working : xm_ok m_V_working := ⟨tb_in (List.mem_append_right _ (List.mem_of_getElem? (i := 329) (by decide +kernel))) rfl, wi_V, by decide +kernel, ⟨by decide +kernel, by decide +kernel⟩, by decide⟩
theorem wm_V_working : Cond.instanceMethod (xm_y m_V_working) ∈ tb_all := tb_in (List.mem_append_right _ (List.mem_of_getElem? (i := 327) (by decide +kernel))) rfl
theorem we_V_working : Cond.selects (xm_y m_V_working).cls (xm_y m_V_working) (xm_y m_V_working) ∈ tb_all := tb_in (List.mem_append_right _ (List.mem_of_getElem? (i := 328) (by decide +kernel))) rfl
theorem ok_V_staged : xm_ok m_V_staged := ⟨tb_in (List.mem_append_right _ (List.mem_of_getElem? (i := 333) (by decide +kernel))) rfl, wi_V, by decide +kernel, ⟨by decide +kernel, by decide +kernel⟩, by decide⟩
theorem wm_V_staged : Cond.instanceMethod (xm_y m_V_staged) ∈ tb_all := tb_in (List.mem_append_right _ (List.mem_of_getElem? (i := 331) (by decide +kernel))) rfl
theorem we_V_staged : Cond.selects (xm_y m_V_staged).cls (xm_y m_V_staged) (xm_y m_V_staged) ∈ tb_all := tb_in (List.mem_append_right _ (List.mem_of_getElem? (i := 332) (by decide +kernel))) rfl
theorem ok_V_base : xm_ok m_V_base := ⟨tb_in (List.mem_append_right _ (List.mem_of_getElem? (i := 337) (by decide +kernel))) rfl, wi_V, by decide +kernel, ⟨by decide +kernel, by decide +kernel⟩, by decide⟩
theorem wm_V_base : Cond.instanceMethod (xm_y m_V_base) ∈ tb_all := tb_in (List.mem_append_right _ (List.mem_of_getElem? (i := 335) (by decide +kernel))) rfl
theorem we_V_base : Cond.selects (xm_y m_V_base).cls (xm_y m_V_base) (xm_y m_V_base) ∈ tb_all := tb_in (List.mem_append_right _ (List.mem_of_getElem? (i := 336) (by decide +kernel))) rfl
theorem ok_M_init : xm_ok m_M_init := ⟨tb_in (List.mem_append_right _ (List.mem_of_getElem? (i := 342) (by decide +kernel))) rfl, wi_M, by decide +kernel, ⟨by decide +kernel, by decide +kernel⟩, by decide⟩
theorem wm_M_init : Cond.instanceMethod (xm_y m_M_init) ∈ tb_all := tb_in (List.mem_append_right _ (List.mem_of_getElem? (i := 341) (by decide +kernel))) rfl
theorem ok_M_write : xm_ok m_M_write := ⟨tb_in (List.mem_append_right _ (List.mem_of_getElem? (i := 406) (by decide +kernel))) rfl, wi_M, by decide +kernel, ⟨by decide +kernel, by decide +kernel⟩, by decide⟩
theorem wm_M_write : Cond.instanceMethod (xm_y m_M_write) ∈ tb_all := tb_in (List.mem_append_right _ (List.mem_of_getElem? (i := 404) (by decide +kernel))) rfl
theorem we_M_write : Cond.selects (xm_y m_M_write).cls (xm_y m_M_write) (xm_y m_M_write) ∈ tb_all := tb_in (List.mem_append_right _ (List.mem_of_getElem? (i := 405) (by decide +kernel))) rfl
theorem ok_M_out : xm_ok m_M_out := ⟨tb_in (List.mem_append_right _ (List.mem_of_getElem? (i := 409) (by decide +kernel))) rfl, wi_M, by decide +kernel, ⟨by decide +kernel, by decide +kernel⟩, by decide⟩
theorem wt_M_out : Cond.static (xm_y m_M_out) ∈ tb_all := tb_in (List.mem_append_right _ (List.mem_of_getElem? (i := 408) (by decide +kernel))) rfl
theorem ok_M_remove : xm_ok m_M_remove := ⟨tb_in (List.mem_append_right _ (List.mem_of_getElem? (i := 414) (by decide +kernel))) rfl, wi_M, by decide +kernel, ⟨by decide +kernel, by decide +kernel⟩, by decide⟩
theorem wm_M_remove : Cond.instanceMethod (xm_y m_M_remove) ∈ tb_all := tb_in (List.mem_append_right _ (List.mem_of_getElem? (i := 412) (by decide +kernel))) rfl
theorem we_M_remove : Cond.selects (xm_y m_M_remove).cls (xm_y m_M_remove) (xm_y m_M_remove) ∈ tb_all := tb_in (List.mem_append_right _ (List.mem_of_getElem? (i := 413) (by decide +kernel))) rfl
theorem ok_M_stage : xm_ok m_M_stage := ⟨tb_in (List.mem_append_right _ (List.mem_of_getElem? (i := 418) (by decide +kernel))) rfl, wi_M, by decide +kernel, ⟨by decide +kernel, by decide +kernel⟩, by decide⟩
theorem wm_M_stage : Cond.instanceMethod (xm_y m_M_stage) ∈ tb_all := tb_in (List.mem_append_right _ (List.mem_of_getElem? (i := 416) (by decide +kernel))) rfl
theorem we_M_stage : Cond.selects (xm_y m_M_stage).cls (xm_y m_M_stage) (xm_y m_M_stage) ∈ tb_all := tb_in (List.mem_append_right _ (List.mem_of_getElem? (i := 417) (by decide +kernel))) rfl
theorem ok_M_commit : xm_ok m_M_commit := ⟨tb_in (List.mem_append_right _ (List.mem_of_getElem? (i := 422) (by decide +kernel))) rfl, wi_M, by decide +kernel, ⟨by decide +kernel, by decide +kernel⟩, by decide⟩
theorem wm_M_commit : Cond.instanceMethod (xm_y m_M_commit) ∈ tb_all := tb_in (List.mem_append_right _ (List.mem_of_getElem? (i := 420) (by decide +kernel))) rfl
theorem we_M_commit : Cond.selects (xm_y m_M_commit).cls (xm_y m_M_commit) (xm_y m_M_commit) ∈ tb_all := tb_in (List.mem_append_right _ (List.mem_of_getElem? (i := 421) (by decide +kernel))) rfl
theorem ok_M_sameAsHead : xm_ok m_M_sameAsHead := ⟨tb_in (List.mem_append_right _ (List.mem_of_getElem? (i := 426) (by decide +kernel))) rfl, wi_M, by decide +kernel, ⟨by decide +kernel, by decide +kernel⟩, by decide⟩
theorem wm_M_sameAsHead : Cond.instanceMethod (xm_y m_M_sameAsHead) ∈ tb_all := tb_in (List.mem_append_right _ (List.mem_of_getElem? (i := 425) (by decide +kernel))) rfl
theorem we_M_sameAsHead : Cond.selects (xm_y m_M_sameAsHead).cls (xm_y m_M_sameAsHead) (xm_y m_M_sameAsHead) ∈ tb_all := tb_in (List.mem_append_left _ (List.mem_of_getElem? (i := 11) (by decide +kernel))) rfl
theorem ok_M_head : xm_ok m_M_head := ⟨tb_in (List.mem_append_right _ (List.mem_of_getElem? (i := 430) (by decide +kernel))) rfl, wi_M, by decide +kernel, ⟨by decide +kernel, by decide +kernel⟩, by decide⟩
theorem wm_M_head : Cond.instanceMethod (xm_y m_M_head) ∈ tb_all := tb_in (List.mem_append_right _ (List.mem_of_getElem? (i := 429) (by decide +kernel))) rfl
theorem we_M_head : Cond.selects (xm_y m_M_head).cls (xm_y m_M_head) (xm_y m_M_head) ∈ tb_all := tb_in (List.mem_append_left _ (List.mem_of_getElem? (i := 12) (by decide +kernel))) rfl
theorem ok_M_textOf : xm_ok m_M_textOf := ⟨tb_in (List.mem_append_right _ (List.mem_of_getElem? (i := 434) (by decide +kernel))) rfl, wi_M, by decide +kernel, ⟨by decide +kernel, by decide +kernel⟩, by decide⟩
theorem wm_M_textOf : Cond.instanceMethod (xm_y m_M_textOf) ∈ tb_all := tb_in (List.mem_append_right _ (List.mem_of_getElem? (i := 433) (by decide +kernel))) rfl
theorem we_M_textOf : Cond.selects (xm_y m_M_textOf).cls (xm_y m_M_textOf) (xm_y m_M_textOf) ∈ tb_all := tb_in (List.mem_append_left _ (List.mem_of_getElem? (i := 13) (by decide +kernel))) rfl
theorem ok_M_make : xm_ok m_M_make := ⟨tb_in (List.mem_append_right _ (List.mem_of_getElem? (i := 438) (by decide +kernel))) rfl, wi_M, by decide +kernel, ⟨by decide +kernel, by decide +kernel⟩, by decide⟩
theorem wm_M_make : Cond.instanceMethod (xm_y m_M_make) ∈ tb_all := tb_in (List.mem_append_right _ (List.mem_of_getElem? (i := 437) (by decide +kernel))) rfl
theorem we_M_make : Cond.selects (xm_y m_M_make).cls (xm_y m_M_make) (xm_y m_M_make) ∈ tb_all := tb_in (List.mem_append_left _ (List.mem_of_getElem? (i := 14) (by decide +kernel))) rfl
theorem ok_M_branch : xm_ok m_M_branch := ⟨tb_in (List.mem_append_right _ (List.mem_of_getElem? (i := 442) (by decide +kernel))) rfl, wi_M, by decide +kernel, ⟨by decide +kernel, by decide +kernel⟩, by decide⟩
theorem wm_M_branch : Cond.instanceMethod (xm_y m_M_branch) ∈ tb_all := tb_in (List.mem_append_right _ (List.mem_of_getElem? (i := 440) (by decide +kernel))) rfl
theorem we_M_branch : Cond.selects (xm_y m_M_branch).cls (xm_y m_M_branch) (xm_y m_M_branch) ∈ tb_all := tb_in (List.mem_append_right _ (List.mem_of_getElem? (i := 441) (by decide +kernel))) rfl
theorem ok_M_there : xm_ok m_M_there := ⟨tb_in (List.mem_append_right _ (List.mem_of_getElem? (i := 446) (by decide +kernel))) rfl, wi_M, by decide +kernel, ⟨by decide +kernel, by decide +kernel⟩, by decide⟩
theorem wm_M_there : Cond.instanceMethod (xm_y m_M_there) ∈ tb_all := tb_in (List.mem_append_right _ (List.mem_of_getElem? (i := 445) (by decide +kernel))) rfl
theorem we_M_there : Cond.selects (xm_y m_M_there).cls (xm_y m_M_there) (xm_y m_M_there) ∈ tb_all := tb_in (List.mem_append_left _ (List.mem_of_getElem? (i := 15) (by decide +kernel))) rfl
theorem ok_M_drop : xm_ok m_M_drop := ⟨tb_in (List.mem_append_right _ (List.mem_of_getElem? (i := 450) (by decide +kernel))) rfl, wi_M, by decide +kernel, ⟨by decide +kernel, by decide +kernel⟩, by decide⟩
theorem wm_M_drop : Cond.instanceMethod (xm_y m_M_drop) ∈ tb_all := tb_in (List.mem_append_right _ (List.mem_of_getElem? (i := 448) (by decide +kernel))) rfl
theorem we_M_drop : Cond.selects (xm_y m_M_drop).cls (xm_y m_M_drop) (xm_y m_M_drop) ∈ tb_all := tb_in (List.mem_append_right _ (List.mem_of_getElem? (i := 449) (by decide +kernel))) rfl
theorem ok_M_checkout : xm_ok m_M_checkout := ⟨tb_in (List.mem_append_right _ (List.mem_of_getElem? (i := 454) (by decide +kernel))) rfl, wi_M, by decide +kernel, ⟨by decide +kernel, by decide +kernel⟩, by decide⟩
theorem wm_M_checkout : Cond.instanceMethod (xm_y m_M_checkout) ∈ tb_all := tb_in (List.mem_append_right _ (List.mem_of_getElem? (i := 452) (by decide +kernel))) rfl
theorem we_M_checkout : Cond.selects (xm_y m_M_checkout).cls (xm_y m_M_checkout) (xm_y m_M_checkout) ∈ tb_all := tb_in (List.mem_append_right _ (List.mem_of_getElem? (i := 453) (by decide +kernel))) rfl
theorem ok_M_dirty : xm_ok m_M_dirty := ⟨tb_in (List.mem_append_right _ (List.mem_of_getElem? (i := 458) (by decide +kernel))) rfl, wi_M, by decide +kernel, ⟨by decide +kernel, by decide +kernel⟩, by decide⟩
theorem wm_M_dirty : Cond.instanceMethod (xm_y m_M_dirty) ∈ tb_all := tb_in (List.mem_append_right _ (List.mem_of_getElem? (i := 457) (by decide +kernel))) rfl
theorem we_M_dirty : Cond.selects (xm_y m_M_dirty).cls (xm_y m_M_dirty) (xm_y m_M_dirty) ∈ tb_all := tb_in (List.mem_append_left _ (List.mem_of_getElem? (i := 16) (by decide +kernel))) rfl
theorem ok_M_moveTo : xm_ok m_M_moveTo := ⟨tb_in (List.mem_append_right _ (List.mem_of_getElem? (i := 462) (by decide +kernel))) rfl, wi_M, by decide +kernel, ⟨by decide +kernel, by decide +kernel⟩, by decide⟩
theorem wm_M_moveTo : Cond.instanceMethod (xm_y m_M_moveTo) ∈ tb_all := tb_in (List.mem_append_right _ (List.mem_of_getElem? (i := 461) (by decide +kernel))) rfl
theorem we_M_moveTo : Cond.selects (xm_y m_M_moveTo).cls (xm_y m_M_moveTo) (xm_y m_M_moveTo) ∈ tb_all := tb_in (List.mem_append_left _ (List.mem_of_getElem? (i := 17) (by decide +kernel))) rfl
theorem ok_M_merge : xm_ok m_M_merge := ⟨tb_in (List.mem_append_right _ (List.mem_of_getElem? (i := 466) (by decide +kernel))) rfl, wi_M, by decide +kernel, ⟨by decide +kernel, by decide +kernel⟩, by decide⟩
theorem wm_M_merge : Cond.instanceMethod (xm_y m_M_merge) ∈ tb_all := tb_in (List.mem_append_right _ (List.mem_of_getElem? (i := 464) (by decide +kernel))) rfl
theorem we_M_merge : Cond.selects (xm_y m_M_merge).cls (xm_y m_M_merge) (xm_y m_M_merge) ∈ tb_all := tb_in (List.mem_append_right _ (List.mem_of_getElem? (i := 465) (by decide +kernel))) rfl
theorem ok_M_reaches : xm_ok m_M_reaches := ⟨tb_in (List.mem_append_right _ (List.mem_of_getElem? (i := 470) (by decide +kernel))) rfl, wi_M, by decide +kernel, ⟨by decide +kernel, by decide +kernel⟩, by decide⟩
theorem wm_M_reaches : Cond.instanceMethod (xm_y m_M_reaches) ∈ tb_all := tb_in (List.mem_append_right _ (List.mem_of_getElem? (i := 469) (by decide +kernel))) rfl
theorem we_M_reaches : Cond.selects (xm_y m_M_reaches).cls (xm_y m_M_reaches) (xm_y m_M_reaches) ∈ tb_all := tb_in (List.mem_append_left _ (List.mem_of_getElem? (i := 18) (by decide +kernel))) rfl
theorem ok_M_reached : xm_ok m_M_reached := ⟨tb_in (List.mem_append_right _ (List.mem_of_getElem? (i := 474) (by decide +kernel))) rfl, wi_M, by decide +kernel, ⟨by decide +kernel, by decide +kernel⟩, by decide⟩
theorem wm_M_reached : Cond.instanceMethod (xm_y m_M_reached) ∈ tb_all := tb_in (List.mem_append_right _ (List.mem_of_getElem? (i := 473) (by decide +kernel))) rfl
theorem we_M_reached : Cond.selects (xm_y m_M_reached).cls (xm_y m_M_reached) (xm_y m_M_reached) ∈ tb_all := tb_in (List.mem_append_left _ (List.mem_of_getElem? (i := 19) (by decide +kernel))) rfl
theorem ok_M_baseOf : xm_ok m_M_baseOf := ⟨tb_in (List.mem_append_right _ (List.mem_of_getElem? (i := 478) (by decide +kernel))) rfl, wi_M, by decide +kernel, ⟨by decide +kernel, by decide +kernel⟩, by decide⟩
theorem wm_M_baseOf : Cond.instanceMethod (xm_y m_M_baseOf) ∈ tb_all := tb_in (List.mem_append_right _ (List.mem_of_getElem? (i := 477) (by decide +kernel))) rfl
theorem we_M_baseOf : Cond.selects (xm_y m_M_baseOf).cls (xm_y m_M_baseOf) (xm_y m_M_baseOf) ∈ tb_all := tb_in (List.mem_append_left _ (List.mem_of_getElem? (i := 20) (by decide +kernel))) rfl
theorem ok_M_unite : xm_ok m_M_unite := ⟨tb_in (List.mem_append_right _ (List.mem_of_getElem? (i := 482) (by decide +kernel))) rfl, wi_M, by decide +kernel, ⟨by decide +kernel, by decide +kernel⟩, by decide⟩
theorem wm_M_unite : Cond.instanceMethod (xm_y m_M_unite) ∈ tb_all := tb_in (List.mem_append_right _ (List.mem_of_getElem? (i := 481) (by decide +kernel))) rfl
theorem we_M_unite : Cond.selects (xm_y m_M_unite).cls (xm_y m_M_unite) (xm_y m_M_unite) ∈ tb_all := tb_in (List.mem_append_left _ (List.mem_of_getElem? (i := 21) (by decide +kernel))) rfl
theorem ok_M_uniteTexts : xm_ok m_M_uniteTexts := ⟨tb_in (List.mem_append_right _ (List.mem_of_getElem? (i := 487) (by decide +kernel))) rfl, wi_M, by decide +kernel, ⟨by decide +kernel, by decide +kernel⟩, by decide⟩
theorem wm_M_uniteTexts : Cond.instanceMethod (xm_y m_M_uniteTexts) ∈ tb_all := tb_in (List.mem_append_right _ (List.mem_of_getElem? (i := 486) (by decide +kernel))) rfl
theorem we_M_uniteTexts : Cond.selects (xm_y m_M_uniteTexts).cls (xm_y m_M_uniteTexts) (xm_y m_M_uniteTexts) ∈ tb_all := tb_in (List.mem_append_left _ (List.mem_of_getElem? (i := 22) (by decide +kernel))) rfl
theorem ok_M_size : xm_ok m_M_size := ⟨tb_in (List.mem_append_right _ (List.mem_of_getElem? (i := 490) (by decide +kernel))) rfl, wi_M, by decide +kernel, ⟨by decide +kernel, by decide +kernel⟩, by decide⟩
theorem wt_M_size : Cond.static (xm_y m_M_size) ∈ tb_all := tb_in (List.mem_append_right _ (List.mem_of_getElem? (i := 489) (by decide +kernel))) rfl
theorem ok_M_matched : xm_ok m_M_matched := ⟨tb_in (List.mem_append_right _ (List.mem_of_getElem? (i := 494) (by decide +kernel))) rfl, wi_M, by decide +kernel, ⟨by decide +kernel, by decide +kernel⟩, by decide⟩
theorem wm_M_matched : Cond.instanceMethod (xm_y m_M_matched) ∈ tb_all := tb_in (List.mem_append_right _ (List.mem_of_getElem? (i := 493) (by decide +kernel))) rfl
theorem we_M_matched : Cond.selects (xm_y m_M_matched).cls (xm_y m_M_matched) (xm_y m_M_matched) ∈ tb_all := tb_in (List.mem_append_left _ (List.mem_of_getElem? (i := 23) (by decide +kernel))) rfl
theorem ok_M_subsequences : xm_ok m_M_subsequences := ⟨tb_in (List.mem_append_right _ (List.mem_of_getElem? (i := 498) (by decide +kernel))) rfl, wi_M, by decide +kernel, ⟨by decide +kernel, by decide +kernel⟩, by decide⟩
theorem wm_M_subsequences : Cond.instanceMethod (xm_y m_M_subsequences) ∈ tb_all := tb_in (List.mem_append_right _ (List.mem_of_getElem? (i := 497) (by decide +kernel))) rfl
theorem we_M_subsequences : Cond.selects (xm_y m_M_subsequences).cls (xm_y m_M_subsequences) (xm_y m_M_subsequences) ∈ tb_all := tb_in (List.mem_append_left _ (List.mem_of_getElem? (i := 24) (by decide +kernel))) rfl
theorem ok_M_line : xm_ok m_M_line := ⟨tb_in (List.mem_append_right _ (List.mem_of_getElem? (i := 501) (by decide +kernel))) rfl, wi_M, by decide +kernel, ⟨by decide +kernel, by decide +kernel⟩, by decide⟩
theorem wt_M_line : Cond.static (xm_y m_M_line) ∈ tb_all := tb_in (List.mem_append_right _ (List.mem_of_getElem? (i := 500) (by decide +kernel))) rfl
theorem ok_M_equal : xm_ok m_M_equal := ⟨tb_in (List.mem_append_right _ (List.mem_of_getElem? (i := 504) (by decide +kernel))) rfl, wi_M, by decide +kernel, ⟨by decide +kernel, by decide +kernel⟩, by decide⟩
theorem wt_M_equal : Cond.static (xm_y m_M_equal) ∈ tb_all := tb_in (List.mem_append_right _ (List.mem_of_getElem? (i := 503) (by decide +kernel))) rfl
theorem ok_M_take : xm_ok m_M_take := ⟨tb_in (List.mem_append_right _ (List.mem_of_getElem? (i := 508) (by decide +kernel))) rfl, wi_M, by decide +kernel, ⟨by decide +kernel, by decide +kernel⟩, by decide⟩
theorem wm_M_take : Cond.instanceMethod (xm_y m_M_take) ∈ tb_all := tb_in (List.mem_append_right _ (List.mem_of_getElem? (i := 507) (by decide +kernel))) rfl
theorem we_M_take : Cond.selects (xm_y m_M_take).cls (xm_y m_M_take) (xm_y m_M_take) ∈ tb_all := tb_in (List.mem_append_left _ (List.mem_of_getElem? (i := 25) (by decide +kernel))) rfl
theorem ok_M_putJoined : xm_ok m_M_putJoined := ⟨tb_in (List.mem_append_right _ (List.mem_of_getElem? (i := 512) (by decide +kernel))) rfl, wi_M, by decide +kernel, ⟨by decide +kernel, by decide +kernel⟩, by decide⟩
theorem wm_M_putJoined : Cond.instanceMethod (xm_y m_M_putJoined) ∈ tb_all := tb_in (List.mem_append_right _ (List.mem_of_getElem? (i := 511) (by decide +kernel))) rfl
theorem we_M_putJoined : Cond.selects (xm_y m_M_putJoined).cls (xm_y m_M_putJoined) (xm_y m_M_putJoined) ∈ tb_all := tb_in (List.mem_append_left _ (List.mem_of_getElem? (i := 26) (by decide +kernel))) rfl
theorem ok_M_pick : xm_ok m_M_pick := ⟨tb_in (List.mem_append_right _ (List.mem_of_getElem? (i := 516) (by decide +kernel))) rfl, wi_M, by decide +kernel, ⟨by decide +kernel, by decide +kernel⟩, by decide⟩
theorem wm_M_pick : Cond.instanceMethod (xm_y m_M_pick) ∈ tb_all := tb_in (List.mem_append_right _ (List.mem_of_getElem? (i := 514) (by decide +kernel))) rfl
theorem we_M_pick : Cond.selects (xm_y m_M_pick).cls (xm_y m_M_pick) (xm_y m_M_pick) ∈ tb_all := tb_in (List.mem_append_right _ (List.mem_of_getElem? (i := 515) (by decide +kernel))) rfl
theorem ok_M_again : xm_ok m_M_again := ⟨tb_in (List.mem_append_right _ (List.mem_of_getElem? (i := 520) (by decide +kernel))) rfl, wi_M, by decide +kernel, ⟨by decide +kernel, by decide +kernel⟩, by decide⟩
theorem wm_M_again : Cond.instanceMethod (xm_y m_M_again) ∈ tb_all := tb_in (List.mem_append_right _ (List.mem_of_getElem? (i := 519) (by decide +kernel))) rfl
theorem we_M_again : Cond.selects (xm_y m_M_again).cls (xm_y m_M_again) (xm_y m_M_again) ∈ tb_all := tb_in (List.mem_append_left _ (List.mem_of_getElem? (i := 27) (by decide +kernel))) rfl
theorem ok_M_changedNothing : xm_ok m_M_changedNothing := ⟨tb_in (List.mem_append_right _ (List.mem_of_getElem? (i := 524) (by decide +kernel))) rfl, wi_M, by decide +kernel, ⟨by decide +kernel, by decide +kernel⟩, by decide⟩
theorem wm_M_changedNothing : Cond.instanceMethod (xm_y m_M_changedNothing) ∈ tb_all := tb_in (List.mem_append_right _ (List.mem_of_getElem? (i := 523) (by decide +kernel))) rfl
theorem we_M_changedNothing : Cond.selects (xm_y m_M_changedNothing).cls (xm_y m_M_changedNothing) (xm_y m_M_changedNothing) ∈ tb_all := tb_in (List.mem_append_left _ (List.mem_of_getElem? (i := 28) (by decide +kernel))) rfl
theorem ok_M_rebase : xm_ok m_M_rebase := ⟨tb_in (List.mem_append_right _ (List.mem_of_getElem? (i := 528) (by decide +kernel))) rfl, wi_M, by decide +kernel, ⟨by decide +kernel, by decide +kernel⟩, by decide⟩
theorem wm_M_rebase : Cond.instanceMethod (xm_y m_M_rebase) ∈ tb_all := tb_in (List.mem_append_right _ (List.mem_of_getElem? (i := 526) (by decide +kernel))) rfl
theorem we_M_rebase : Cond.selects (xm_y m_M_rebase).cls (xm_y m_M_rebase) (xm_y m_M_rebase) ∈ tb_all := tb_in (List.mem_append_right _ (List.mem_of_getElem? (i := 527) (by decide +kernel))) rfl
theorem ok_M_replay : xm_ok m_M_replay := ⟨tb_in (List.mem_append_right _ (List.mem_of_getElem? (i := 533) (by decide +kernel))) rfl, wi_M, by decide +kernel, ⟨by decide +kernel, by decide +kernel⟩, by decide⟩
theorem wm_M_replay : Cond.instanceMethod (xm_y m_M_replay) ∈ tb_all := tb_in (List.mem_append_right _ (List.mem_of_getElem? (i := 532) (by decide +kernel))) rfl
theorem we_M_replay : Cond.selects (xm_y m_M_replay).cls (xm_y m_M_replay) (xm_y m_M_replay) ∈ tb_all := tb_in (List.mem_append_left _ (List.mem_of_getElem? (i := 29) (by decide +kernel))) rfl
theorem ok_M_collect : xm_ok m_M_collect := ⟨tb_in (List.mem_append_right _ (List.mem_of_getElem? (i := 537) (by decide +kernel))) rfl, wi_M, by decide +kernel, ⟨by decide +kernel, by decide +kernel⟩, by decide⟩
theorem wm_M_collect : Cond.instanceMethod (xm_y m_M_collect) ∈ tb_all := tb_in (List.mem_append_right _ (List.mem_of_getElem? (i := 535) (by decide +kernel))) rfl
theorem we_M_collect : Cond.selects (xm_y m_M_collect).cls (xm_y m_M_collect) (xm_y m_M_collect) ∈ tb_all := tb_in (List.mem_append_right _ (List.mem_of_getElem? (i := 536) (by decide +kernel))) rfl
theorem ok_M_many : xm_ok m_M_many := ⟨tb_in (List.mem_append_right _ (List.mem_of_getElem? (i := 540) (by decide +kernel))) rfl, wi_M, by decide +kernel, ⟨by decide +kernel, by decide +kernel⟩, by decide⟩
theorem wt_M_many : Cond.static (xm_y m_M_many) ∈ tb_all := tb_in (List.mem_append_right _ (List.mem_of_getElem? (i := 539) (by decide +kernel))) rfl
theorem ok_M_send : xm_ok m_M_send := ⟨tb_in (List.mem_append_right _ (List.mem_of_getElem? (i := 544) (by decide +kernel))) rfl, wi_M, by decide +kernel, ⟨by decide +kernel, by decide +kernel⟩, by decide⟩
theorem wm_M_send : Cond.instanceMethod (xm_y m_M_send) ∈ tb_all := tb_in (List.mem_append_right _ (List.mem_of_getElem? (i := 542) (by decide +kernel))) rfl
theorem we_M_send : Cond.selects (xm_y m_M_send).cls (xm_y m_M_send) (xm_y m_M_send) ∈ tb_all := tb_in (List.mem_append_right _ (List.mem_of_getElem? (i := 543) (by decide +kernel))) rfl
theorem ok_M_current : xm_ok m_M_current := ⟨tb_in (List.mem_append_right _ (List.mem_of_getElem? (i := 548) (by decide +kernel))) rfl, wi_M, by decide +kernel, ⟨by decide +kernel, by decide +kernel⟩, by decide⟩
theorem wm_M_current : Cond.instanceMethod (xm_y m_M_current) ∈ tb_all := tb_in (List.mem_append_right _ (List.mem_of_getElem? (i := 546) (by decide +kernel))) rfl
theorem we_M_current : Cond.selects (xm_y m_M_current).cls (xm_y m_M_current) (xm_y m_M_current) ∈ tb_all := tb_in (List.mem_append_right _ (List.mem_of_getElem? (i := 547) (by decide +kernel))) rfl
theorem ok_M_tip : xm_ok m_M_tip := ⟨tb_in (List.mem_append_right _ (List.mem_of_getElem? (i := 552) (by decide +kernel))) rfl, wi_M, by decide +kernel, ⟨by decide +kernel, by decide +kernel⟩, by decide⟩
theorem wm_M_tip : Cond.instanceMethod (xm_y m_M_tip) ∈ tb_all := tb_in (List.mem_append_right _ (List.mem_of_getElem? (i := 550) (by decide +kernel))) rfl
theorem we_M_tip : Cond.selects (xm_y m_M_tip).cls (xm_y m_M_tip) (xm_y m_M_tip) ∈ tb_all := tb_in (List.mem_append_right _ (List.mem_of_getElem? (i := 551) (by decide +kernel))) rfl
theorem ok_M_holds : xm_ok m_M_holds := ⟨tb_in (List.mem_append_right _ (List.mem_of_getElem? (i := 556) (by decide +kernel))) rfl, wi_M, by decide +kernel, ⟨by decide +kernel, by decide +kernel⟩, by decide⟩
theorem wm_M_holds : Cond.instanceMethod (xm_y m_M_holds) ∈ tb_all := tb_in (List.mem_append_right _ (List.mem_of_getElem? (i := 554) (by decide +kernel))) rfl
theorem we_M_holds : Cond.selects (xm_y m_M_holds).cls (xm_y m_M_holds) (xm_y m_M_holds) ∈ tb_all := tb_in (List.mem_append_right _ (List.mem_of_getElem? (i := 555) (by decide +kernel))) rfl
theorem ok_M_commits : xm_ok m_M_commits := ⟨tb_in (List.mem_append_right _ (List.mem_of_getElem? (i := 560) (by decide +kernel))) rfl, wi_M, by decide +kernel, ⟨by decide +kernel, by decide +kernel⟩, by decide⟩
theorem wm_M_commits : Cond.instanceMethod (xm_y m_M_commits) ∈ tb_all := tb_in (List.mem_append_right _ (List.mem_of_getElem? (i := 558) (by decide +kernel))) rfl
theorem we_M_commits : Cond.selects (xm_y m_M_commits).cls (xm_y m_M_commits) (xm_y m_M_commits) ∈ tb_all := tb_in (List.mem_append_right _ (List.mem_of_getElem? (i := 559) (by decide +kernel))) rfl
theorem ok_M_parent : xm_ok m_M_parent := ⟨tb_in (List.mem_append_right _ (List.mem_of_getElem? (i := 564) (by decide +kernel))) rfl, wi_M, by decide +kernel, ⟨by decide +kernel, by decide +kernel⟩, by decide⟩
theorem wm_M_parent : Cond.instanceMethod (xm_y m_M_parent) ∈ tb_all := tb_in (List.mem_append_right _ (List.mem_of_getElem? (i := 562) (by decide +kernel))) rfl
theorem we_M_parent : Cond.selects (xm_y m_M_parent).cls (xm_y m_M_parent) (xm_y m_M_parent) ∈ tb_all := tb_in (List.mem_append_right _ (List.mem_of_getElem? (i := 563) (by decide +kernel))) rfl
theorem ok_M_text : xm_ok m_M_text := ⟨tb_in (List.mem_append_right _ (List.mem_of_getElem? (i := 568) (by decide +kernel))) rfl, wi_M, by decide +kernel, ⟨by decide +kernel, by decide +kernel⟩, by decide⟩
theorem wm_M_text : Cond.instanceMethod (xm_y m_M_text) ∈ tb_all := tb_in (List.mem_append_right _ (List.mem_of_getElem? (i := 566) (by decide +kernel))) rfl
theorem we_M_text : Cond.selects (xm_y m_M_text).cls (xm_y m_M_text) (xm_y m_M_text) ∈ tb_all := tb_in (List.mem_append_right _ (List.mem_of_getElem? (i := 567) (by decide +kernel))) rfl
theorem ok_M_working : xm_ok m_M_working := ⟨tb_in (List.mem_append_right _ (List.mem_of_getElem? (i := 572) (by decide +kernel))) rfl, wi_M, by decide +kernel, ⟨by decide +kernel, by decide +kernel⟩, by decide⟩
theorem wm_M_working : Cond.instanceMethod (xm_y m_M_working) ∈ tb_all := tb_in (List.mem_append_right _ (List.mem_of_getElem? (i := 570) (by decide +kernel))) rfl
theorem we_M_working : Cond.selects (xm_y m_M_working).cls (xm_y m_M_working) (xm_y m_M_working) ∈ tb_all := tb_in (List.mem_append_right _ (List.mem_of_getElem? (i := 571) (by decide +kernel))) rfl
theorem ok_M_staged : xm_ok m_M_staged := ⟨tb_in (List.mem_append_right _ (List.mem_of_getElem? (i := 576) (by decide +kernel))) rfl, wi_M, by decide +kernel, ⟨by decide +kernel, by decide +kernel⟩, by decide⟩
theorem wm_M_staged : Cond.instanceMethod (xm_y m_M_staged) ∈ tb_all := tb_in (List.mem_append_right _ (List.mem_of_getElem? (i := 574) (by decide +kernel))) rfl
theorem we_M_staged : Cond.selects (xm_y m_M_staged).cls (xm_y m_M_staged) (xm_y m_M_staged) ∈ tb_all := tb_in (List.mem_append_right _ (List.mem_of_getElem? (i := 575) (by decide +kernel))) rfl
theorem ok_M_base : xm_ok m_M_base := ⟨tb_in (List.mem_append_right _ (List.mem_of_getElem? (i := 580) (by decide +kernel))) rfl, wi_M, by decide +kernel, ⟨by decide +kernel, by decide +kernel⟩, by decide⟩
theorem wm_M_base : Cond.instanceMethod (xm_y m_M_base) ∈ tb_all := tb_in (List.mem_append_right _ (List.mem_of_getElem? (i := 578) (by decide +kernel))) rfl
theorem we_M_base : Cond.selects (xm_y m_M_base).cls (xm_y m_M_base) (xm_y m_M_base) ∈ tb_all := tb_in (List.mem_append_right _ (List.mem_of_getElem? (i := 579) (by decide +kernel))) rfl
theorem k_R_22 : Cond.constantLong "SnapshotVault$Repository" 22 (-2) ∈ tb_all := tb_in (List.mem_append_right _ (List.mem_of_getElem? (i := 49) (by decide +kernel))) rfl
theorem k_V_47 : Cond.constantLong "SnapshotVault" 47 (-2) ∈ tb_all := tb_in (List.mem_append_right _ (List.mem_of_getElem? (i := 120) (by decide +kernel))) rfl
theorem k_H_33 : Cond.constantLong "SnapshotVault$History" 33 (-2) ∈ tb_all := tb_in (List.mem_append_right _ (List.mem_of_getElem? (i := 145) (by decide +kernel))) rfl
theorem k_U_37 : Cond.constantLong "SnapshotVault$Uniter" 37 (-5) ∈ tb_all := tb_in (List.mem_append_right _ (List.mem_of_getElem? (i := 218) (by decide +kernel))) rfl
theorem k_U_39 : Cond.constantLong "SnapshotVault$Uniter" 39 (-2) ∈ tb_all := tb_in (List.mem_append_right _ (List.mem_of_getElem? (i := 219) (by decide +kernel))) rfl
theorem k_T_11 : Cond.constantLong "SnapshotVault$Texts" 11 (15) ∈ tb_all := tb_in (List.mem_append_right _ (List.mem_of_getElem? (i := 234) (by decide +kernel))) rfl
theorem k_T_17 : Cond.constantLong "SnapshotVault$Texts" 17 (-5) ∈ tb_all := tb_in (List.mem_append_right _ (List.mem_of_getElem? (i := 249) (by decide +kernel))) rfl
theorem k_T_23 : Cond.constantLong "SnapshotVault$Texts" 23 (4294967295) ∈ tb_all := tb_in (List.mem_append_right _ (List.mem_of_getElem? (i := 251) (by decide +kernel))) rfl
theorem k_V_109 : Cond.constantLong "SnapshotVault" 109 (-1) ∈ tb_all := tb_in (List.mem_append_right _ (List.mem_of_getElem? (i := 278) (by decide +kernel))) rfl
theorem k_J_314 : Cond.constantLong "java/lang/Long" 314 (6148914691236517205) ∈ tb_all := tb_in (List.mem_append_right _ (List.mem_of_getElem? (i := 294) (by decide +kernel))) rfl
theorem k_J_316 : Cond.constantLong "java/lang/Long" 316 (3689348814741910323) ∈ tb_all := tb_in (List.mem_append_right _ (List.mem_of_getElem? (i := 295) (by decide +kernel))) rfl
theorem k_J_318 : Cond.constantLong "java/lang/Long" 318 (1085102592571150095) ∈ tb_all := tb_in (List.mem_append_right _ (List.mem_of_getElem? (i := 296) (by decide +kernel))) rfl
theorem k_M_62 : Cond.constantLong "SnapshotVaultModel" 62 (-2) ∈ tb_all := tb_in (List.mem_append_right _ (List.mem_of_getElem? (i := 344) (by decide +kernel))) rfl
theorem k_M_64 : Cond.constantLong "SnapshotVaultModel" 64 (15) ∈ tb_all := tb_in (List.mem_append_right _ (List.mem_of_getElem? (i := 410) (by decide +kernel))) rfl
theorem k_M_94 : Cond.constantLong "SnapshotVaultModel" 94 (-5) ∈ tb_all := tb_in (List.mem_append_right _ (List.mem_of_getElem? (i := 483) (by decide +kernel))) rfl
theorem k_M_158 : Cond.constantLong "SnapshotVaultModel" 158 (-1) ∈ tb_all := tb_in (List.mem_append_right _ (List.mem_of_getElem? (i := 529) (by decide +kernel))) rfl
theorem k_L_13 : Cond.constantLong "SnapshotVaultLaw" 13 (4294967295) ∈ tb_all := tb_in (List.mem_append_right _ (List.mem_of_getElem? (i := 581) (by decide +kernel))) rfl
theorem g_H_9 : xm_gf "SnapshotVault$History" 9 0 0 := ⟨_, _, _, _, cl_H, by decide, Or.inl (tb_in (List.mem_append_right _ (List.mem_of_getElem? (i := 23) (by decide +kernel))) rfl)⟩
theorem p_H_9 : xm_pf (xm_y m_H_init) 9 0 0 (.array .long) := ⟨_, _, _, _, cl_H, by decide, Or.inl (tb_in (List.mem_append_right _ (List.mem_of_getElem? (i := 23) (by decide +kernel))) rfl), Or.inr ⟨rfl, rfl, rfl, tb_in (List.mem_append_right _ (List.mem_of_getElem? (i := 23) (by decide +kernel))) rfl⟩, rfl⟩
theorem g_H_15 : xm_gf "SnapshotVault$History" 15 0 1 := ⟨_, _, _, _, cl_H, by decide, Or.inl (tb_in (List.mem_append_right _ (List.mem_of_getElem? (i := 24) (by decide +kernel))) rfl)⟩
theorem p_H_15 : xm_pf (xm_y m_H_init) 15 0 1 (.array .int) := ⟨_, _, _, _, cl_H, by decide, Or.inl (tb_in (List.mem_append_right _ (List.mem_of_getElem? (i := 24) (by decide +kernel))) rfl), Or.inr ⟨rfl, rfl, rfl, tb_in (List.mem_append_right _ (List.mem_of_getElem? (i := 24) (by decide +kernel))) rfl⟩, rfl⟩
theorem g_H_19 : xm_gf "SnapshotVault$History" 19 0 2 := ⟨_, _, _, _, cl_H, by decide, Or.inl (tb_in (List.mem_append_right _ (List.mem_of_getElem? (i := 25) (by decide +kernel))) rfl)⟩
theorem p_H_19 : xm_pf (xm_y m_H_init) 19 0 2 (.array .int) := ⟨_, _, _, _, cl_H, by decide, Or.inl (tb_in (List.mem_append_right _ (List.mem_of_getElem? (i := 25) (by decide +kernel))) rfl), Or.inr ⟨rfl, rfl, rfl, tb_in (List.mem_append_right _ (List.mem_of_getElem? (i := 25) (by decide +kernel))) rfl⟩, rfl⟩
theorem g_H_22 : xm_gf "SnapshotVault$History" 22 0 3 := ⟨_, _, _, _, cl_H, by decide, Or.inl (tb_in (List.mem_append_right _ (List.mem_of_getElem? (i := 26) (by decide +kernel))) rfl)⟩
theorem p_H_22 : xm_pf (xm_y m_H_init) 22 0 3 (.array .long) := ⟨_, _, _, _, cl_H, by decide, Or.inl (tb_in (List.mem_append_right _ (List.mem_of_getElem? (i := 26) (by decide +kernel))) rfl), Or.inr ⟨rfl, rfl, rfl, tb_in (List.mem_append_right _ (List.mem_of_getElem? (i := 26) (by decide +kernel))) rfl⟩, rfl⟩
theorem g_H_25 : xm_gf "SnapshotVault$History" 25 0 4 := ⟨_, _, _, _, cl_H, by decide, Or.inl (tb_in (List.mem_append_right _ (List.mem_of_getElem? (i := 27) (by decide +kernel))) rfl)⟩
theorem p_H_25 (y : MethodName) (hy : y.cls = "SnapshotVault$History") : xm_pf y 25 0 4 (.int) := ⟨_, _, _, _, cl_H, by decide, by rw [hy]; exact Or.inl (tb_in (List.mem_append_right _ (List.mem_of_getElem? (i := 27) (by decide +kernel))) rfl), Or.inl rfl, rfl⟩
theorem g_R_9 : xm_gf "SnapshotVault$Repository" 9 1 0 := ⟨_, _, _, _, cl_R, by decide, Or.inl (tb_in (List.mem_append_right _ (List.mem_of_getElem? (i := 50) (by decide +kernel))) rfl)⟩
theorem p_R_9 : xm_pf (xm_y m_R_init) 9 1 0 (.array .int) := ⟨_, _, _, _, cl_R, by decide, Or.inl (tb_in (List.mem_append_right _ (List.mem_of_getElem? (i := 50) (by decide +kernel))) rfl), Or.inr ⟨rfl, rfl, rfl, tb_in (List.mem_append_right _ (List.mem_of_getElem? (i := 50) (by decide +kernel))) rfl⟩, rfl⟩
theorem g_R_15 : xm_gf "SnapshotVault$Repository" 15 1 1 := ⟨_, _, _, _, cl_R, by decide, Or.inl (tb_in (List.mem_append_right _ (List.mem_of_getElem? (i := 52) (by decide +kernel))) rfl)⟩
theorem p_R_15 : xm_pf (xm_y m_R_init) 15 1 1 (.array .long) := ⟨_, _, _, _, cl_R, by decide, Or.inl (tb_in (List.mem_append_right _ (List.mem_of_getElem? (i := 52) (by decide +kernel))) rfl), Or.inr ⟨rfl, rfl, rfl, tb_in (List.mem_append_right _ (List.mem_of_getElem? (i := 52) (by decide +kernel))) rfl⟩, rfl⟩
theorem g_R_19 : xm_gf "SnapshotVault$Repository" 19 1 2 := ⟨_, _, _, _, cl_R, by decide, Or.inl (tb_in (List.mem_append_right _ (List.mem_of_getElem? (i := 54) (by decide +kernel))) rfl)⟩
theorem p_R_19 : xm_pf (xm_y m_R_init) 19 1 2 (.array .long) := ⟨_, _, _, _, cl_R, by decide, Or.inl (tb_in (List.mem_append_right _ (List.mem_of_getElem? (i := 54) (by decide +kernel))) rfl), Or.inr ⟨rfl, rfl, rfl, tb_in (List.mem_append_right _ (List.mem_of_getElem? (i := 54) (by decide +kernel))) rfl⟩, rfl⟩
theorem g_R_24 : xm_gf "SnapshotVault$Repository" 24 1 3 := ⟨_, _, _, _, cl_R, by decide, Or.inl (tb_in (List.mem_append_right _ (List.mem_of_getElem? (i := 56) (by decide +kernel))) rfl)⟩
theorem p_R_24 (y : MethodName) (hy : y.cls = "SnapshotVault$Repository") : xm_pf y 24 1 3 (.long) := ⟨_, _, _, _, cl_R, by decide, by rw [hy]; exact Or.inl (tb_in (List.mem_append_right _ (List.mem_of_getElem? (i := 56) (by decide +kernel))) rfl), Or.inl rfl, rfl⟩
theorem g_R_28 : xm_gf "SnapshotVault$Repository" 28 1 4 := ⟨_, _, _, _, cl_R, by decide, Or.inl (tb_in (List.mem_append_right _ (List.mem_of_getElem? (i := 58) (by decide +kernel))) rfl)⟩
theorem p_R_28 (y : MethodName) (hy : y.cls = "SnapshotVault$Repository") : xm_pf y 28 1 4 (.int) := ⟨_, _, _, _, cl_R, by decide, by rw [hy]; exact Or.inl (tb_in (List.mem_append_right _ (List.mem_of_getElem? (i := 58) (by decide +kernel))) rfl), Or.inl rfl, rfl⟩
theorem g_U_9 : xm_gf "SnapshotVault$Uniter" 9 2 0 := ⟨_, _, _, _, cl_U, by decide, Or.inl (tb_in (List.mem_append_right _ (List.mem_of_getElem? (i := 79) (by decide +kernel))) rfl)⟩
theorem p_U_9 : xm_pf (xm_y m_U_init) 9 2 0 (.array .long) := ⟨_, _, _, _, cl_U, by decide, Or.inl (tb_in (List.mem_append_right _ (List.mem_of_getElem? (i := 79) (by decide +kernel))) rfl), Or.inr ⟨rfl, rfl, rfl, tb_in (List.mem_append_right _ (List.mem_of_getElem? (i := 79) (by decide +kernel))) rfl⟩, rfl⟩
theorem g_U_15 : xm_gf "SnapshotVault$Uniter" 15 2 1 := ⟨_, _, _, _, cl_U, by decide, Or.inl (tb_in (List.mem_append_right _ (List.mem_of_getElem? (i := 81) (by decide +kernel))) rfl)⟩
theorem p_U_15 : xm_pf (xm_y m_U_init) 15 2 1 (.array .int) := ⟨_, _, _, _, cl_U, by decide, Or.inl (tb_in (List.mem_append_right _ (List.mem_of_getElem? (i := 81) (by decide +kernel))) rfl), Or.inr ⟨rfl, rfl, rfl, tb_in (List.mem_append_right _ (List.mem_of_getElem? (i := 81) (by decide +kernel))) rfl⟩, rfl⟩
theorem g_U_19 : xm_gf "SnapshotVault$Uniter" 19 2 2 := ⟨_, _, _, _, cl_U, by decide, Or.inl (tb_in (List.mem_append_right _ (List.mem_of_getElem? (i := 82) (by decide +kernel))) rfl)⟩
theorem p_U_19 : xm_pf (xm_y m_U_init) 19 2 2 (.array .int) := ⟨_, _, _, _, cl_U, by decide, Or.inl (tb_in (List.mem_append_right _ (List.mem_of_getElem? (i := 82) (by decide +kernel))) rfl), Or.inr ⟨rfl, rfl, rfl, tb_in (List.mem_append_right _ (List.mem_of_getElem? (i := 82) (by decide +kernel))) rfl⟩, rfl⟩
theorem g_U_24 : xm_gf "SnapshotVault$Uniter" 24 2 3 := ⟨_, _, _, _, cl_U, by decide, Or.inl (tb_in (List.mem_append_right _ (List.mem_of_getElem? (i := 83) (by decide +kernel))) rfl)⟩
theorem p_U_24 : xm_pf (xm_y m_U_init) 24 2 3 (.array (.array .int)) := ⟨_, _, _, _, cl_U, by decide, Or.inl (tb_in (List.mem_append_right _ (List.mem_of_getElem? (i := 83) (by decide +kernel))) rfl), Or.inr ⟨rfl, rfl, rfl, tb_in (List.mem_append_right _ (List.mem_of_getElem? (i := 83) (by decide +kernel))) rfl⟩, rfl⟩
theorem g_V_10 : xm_gf "SnapshotVault" 10 3 0 := ⟨_, _, _, _, cl_V, by decide, Or.inl (tb_in (List.mem_append_right _ (List.mem_of_getElem? (i := 93) (by decide +kernel))) rfl)⟩
theorem p_V_10 : xm_pf (xm_y m_V_init) 10 3 0 (.object "SnapshotVault$History") := ⟨_, _, _, _, cl_V, by decide, Or.inl (tb_in (List.mem_append_right _ (List.mem_of_getElem? (i := 93) (by decide +kernel))) rfl), Or.inr ⟨rfl, rfl, rfl, tb_in (List.mem_append_right _ (List.mem_of_getElem? (i := 93) (by decide +kernel))) rfl⟩, rfl⟩
theorem g_V_18 : xm_gf "SnapshotVault" 18 3 1 := ⟨_, _, _, _, cl_V, by decide, Or.inl (tb_in (List.mem_append_right _ (List.mem_of_getElem? (i := 94) (by decide +kernel))) rfl)⟩
theorem p_V_18 : xm_pf (xm_y m_V_init) 18 3 1 (.array (.object "SnapshotVault$Repository")) := ⟨_, _, _, _, cl_V, by decide, Or.inl (tb_in (List.mem_append_right _ (List.mem_of_getElem? (i := 94) (by decide +kernel))) rfl), Or.inr ⟨rfl, rfl, rfl, tb_in (List.mem_append_right _ (List.mem_of_getElem? (i := 94) (by decide +kernel))) rfl⟩, rfl⟩
theorem g_V_26 : xm_gf "SnapshotVault" 26 3 2 := ⟨_, _, _, _, cl_V, by decide, Or.inl (tb_in (List.mem_append_right _ (List.mem_of_getElem? (i := 95) (by decide +kernel))) rfl)⟩
theorem p_V_26 : xm_pf (xm_y m_V_init) 26 3 2 (.object "SnapshotVault$Uniter") := ⟨_, _, _, _, cl_V, by decide, Or.inl (tb_in (List.mem_append_right _ (List.mem_of_getElem? (i := 95) (by decide +kernel))) rfl), Or.inr ⟨rfl, rfl, rfl, tb_in (List.mem_append_right _ (List.mem_of_getElem? (i := 95) (by decide +kernel))) rfl⟩, rfl⟩
theorem g_M_104 : xm_gf "SnapshotVaultModel" 104 4 0 := ⟨_, _, _, _, cl_M, by decide, Or.inl (tb_in (List.mem_append_right _ (List.mem_of_getElem? (i := 345) (by decide +kernel))) rfl)⟩
theorem p_M_104 (y : MethodName) (hy : y.cls = "SnapshotVaultModel") : xm_pf y 104 4 0 (.int) := ⟨_, _, _, _, cl_M, by decide, by rw [hy]; exact Or.inl (tb_in (List.mem_append_right _ (List.mem_of_getElem? (i := 345) (by decide +kernel))) rfl), Or.inl rfl, rfl⟩
theorem g_M_7 : xm_gf "SnapshotVaultModel" 7 4 1 := ⟨_, _, _, _, cl_M, by decide, Or.inl (tb_in (List.mem_append_right _ (List.mem_of_getElem? (i := 346) (by decide +kernel))) rfl)⟩
theorem p_M_7 : xm_pf (xm_y m_M_init) 7 4 1 (.array .long) := ⟨_, _, _, _, cl_M, by decide, Or.inl (tb_in (List.mem_append_right _ (List.mem_of_getElem? (i := 346) (by decide +kernel))) rfl), Or.inr ⟨rfl, rfl, rfl, tb_in (List.mem_append_right _ (List.mem_of_getElem? (i := 346) (by decide +kernel))) rfl⟩, rfl⟩
theorem g_M_13 : xm_gf "SnapshotVaultModel" 13 4 2 := ⟨_, _, _, _, cl_M, by decide, Or.inl (tb_in (List.mem_append_right _ (List.mem_of_getElem? (i := 347) (by decide +kernel))) rfl)⟩
theorem p_M_13 : xm_pf (xm_y m_M_init) 13 4 2 (.array .int) := ⟨_, _, _, _, cl_M, by decide, Or.inl (tb_in (List.mem_append_right _ (List.mem_of_getElem? (i := 347) (by decide +kernel))) rfl), Or.inr ⟨rfl, rfl, rfl, tb_in (List.mem_append_right _ (List.mem_of_getElem? (i := 347) (by decide +kernel))) rfl⟩, rfl⟩
theorem g_M_17 : xm_gf "SnapshotVaultModel" 17 4 3 := ⟨_, _, _, _, cl_M, by decide, Or.inl (tb_in (List.mem_append_right _ (List.mem_of_getElem? (i := 348) (by decide +kernel))) rfl)⟩
theorem p_M_17 : xm_pf (xm_y m_M_init) 17 4 3 (.array .int) := ⟨_, _, _, _, cl_M, by decide, Or.inl (tb_in (List.mem_append_right _ (List.mem_of_getElem? (i := 348) (by decide +kernel))) rfl), Or.inr ⟨rfl, rfl, rfl, tb_in (List.mem_append_right _ (List.mem_of_getElem? (i := 348) (by decide +kernel))) rfl⟩, rfl⟩
theorem g_M_20 : xm_gf "SnapshotVaultModel" 20 4 4 := ⟨_, _, _, _, cl_M, by decide, Or.inl (tb_in (List.mem_append_right _ (List.mem_of_getElem? (i := 349) (by decide +kernel))) rfl)⟩
theorem p_M_20 : xm_pf (xm_y m_M_init) 20 4 4 (.array .long) := ⟨_, _, _, _, cl_M, by decide, Or.inl (tb_in (List.mem_append_right _ (List.mem_of_getElem? (i := 349) (by decide +kernel))) rfl), Or.inr ⟨rfl, rfl, rfl, tb_in (List.mem_append_right _ (List.mem_of_getElem? (i := 349) (by decide +kernel))) rfl⟩, rfl⟩
theorem g_M_23 : xm_gf "SnapshotVaultModel" 23 4 5 := ⟨_, _, _, _, cl_M, by decide, Or.inl (tb_in (List.mem_append_right _ (List.mem_of_getElem? (i := 350) (by decide +kernel))) rfl)⟩
theorem p_M_23 : xm_pf (xm_y m_M_init) 23 4 5 (.array .int) := ⟨_, _, _, _, cl_M, by decide, Or.inl (tb_in (List.mem_append_right _ (List.mem_of_getElem? (i := 350) (by decide +kernel))) rfl), Or.inr ⟨rfl, rfl, rfl, tb_in (List.mem_append_right _ (List.mem_of_getElem? (i := 350) (by decide +kernel))) rfl⟩, rfl⟩
theorem g_M_26 : xm_gf "SnapshotVaultModel" 26 4 6 := ⟨_, _, _, _, cl_M, by decide, Or.inl (tb_in (List.mem_append_right _ (List.mem_of_getElem? (i := 351) (by decide +kernel))) rfl)⟩
theorem p_M_26 : xm_pf (xm_y m_M_init) 26 4 6 (.array .int) := ⟨_, _, _, _, cl_M, by decide, Or.inl (tb_in (List.mem_append_right _ (List.mem_of_getElem? (i := 351) (by decide +kernel))) rfl), Or.inr ⟨rfl, rfl, rfl, tb_in (List.mem_append_right _ (List.mem_of_getElem? (i := 351) (by decide +kernel))) rfl⟩, rfl⟩
theorem g_M_29 : xm_gf "SnapshotVaultModel" 29 4 7 := ⟨_, _, _, _, cl_M, by decide, Or.inl (tb_in (List.mem_append_right _ (List.mem_of_getElem? (i := 352) (by decide +kernel))) rfl)⟩
theorem p_M_29 : xm_pf (xm_y m_M_init) 29 4 7 (.array .long) := ⟨_, _, _, _, cl_M, by decide, Or.inl (tb_in (List.mem_append_right _ (List.mem_of_getElem? (i := 352) (by decide +kernel))) rfl), Or.inr ⟨rfl, rfl, rfl, tb_in (List.mem_append_right _ (List.mem_of_getElem? (i := 352) (by decide +kernel))) rfl⟩, rfl⟩
theorem g_M_32 : xm_gf "SnapshotVaultModel" 32 4 8 := ⟨_, _, _, _, cl_M, by decide, Or.inl (tb_in (List.mem_append_right _ (List.mem_of_getElem? (i := 353) (by decide +kernel))) rfl)⟩
theorem p_M_32 : xm_pf (xm_y m_M_init) 32 4 8 (.array .long) := ⟨_, _, _, _, cl_M, by decide, Or.inl (tb_in (List.mem_append_right _ (List.mem_of_getElem? (i := 353) (by decide +kernel))) rfl), Or.inr ⟨rfl, rfl, rfl, tb_in (List.mem_append_right _ (List.mem_of_getElem? (i := 353) (by decide +kernel))) rfl⟩, rfl⟩
theorem g_M_35 : xm_gf "SnapshotVaultModel" 35 4 9 := ⟨_, _, _, _, cl_M, by decide, Or.inl (tb_in (List.mem_append_right _ (List.mem_of_getElem? (i := 354) (by decide +kernel))) rfl)⟩
theorem p_M_35 : xm_pf (xm_y m_M_init) 35 4 9 (.array .long) := ⟨_, _, _, _, cl_M, by decide, Or.inl (tb_in (List.mem_append_right _ (List.mem_of_getElem? (i := 354) (by decide +kernel))) rfl), Or.inr ⟨rfl, rfl, rfl, tb_in (List.mem_append_right _ (List.mem_of_getElem? (i := 354) (by decide +kernel))) rfl⟩, rfl⟩
theorem g_M_38 : xm_gf "SnapshotVaultModel" 38 4 10 := ⟨_, _, _, _, cl_M, by decide, Or.inl (tb_in (List.mem_append_right _ (List.mem_of_getElem? (i := 355) (by decide +kernel))) rfl)⟩
theorem p_M_38 : xm_pf (xm_y m_M_init) 38 4 10 (.array .long) := ⟨_, _, _, _, cl_M, by decide, Or.inl (tb_in (List.mem_append_right _ (List.mem_of_getElem? (i := 355) (by decide +kernel))) rfl), Or.inr ⟨rfl, rfl, rfl, tb_in (List.mem_append_right _ (List.mem_of_getElem? (i := 355) (by decide +kernel))) rfl⟩, rfl⟩
theorem g_M_41 : xm_gf "SnapshotVaultModel" 41 4 11 := ⟨_, _, _, _, cl_M, by decide, Or.inl (tb_in (List.mem_append_right _ (List.mem_of_getElem? (i := 356) (by decide +kernel))) rfl)⟩
theorem p_M_41 : xm_pf (xm_y m_M_init) 41 4 11 (.array .long) := ⟨_, _, _, _, cl_M, by decide, Or.inl (tb_in (List.mem_append_right _ (List.mem_of_getElem? (i := 356) (by decide +kernel))) rfl), Or.inr ⟨rfl, rfl, rfl, tb_in (List.mem_append_right _ (List.mem_of_getElem? (i := 356) (by decide +kernel))) rfl⟩, rfl⟩
theorem g_M_44 : xm_gf "SnapshotVaultModel" 44 4 12 := ⟨_, _, _, _, cl_M, by decide, Or.inl (tb_in (List.mem_append_right _ (List.mem_of_getElem? (i := 357) (by decide +kernel))) rfl)⟩
theorem p_M_44 : xm_pf (xm_y m_M_init) 44 4 12 (.array .long) := ⟨_, _, _, _, cl_M, by decide, Or.inl (tb_in (List.mem_append_right _ (List.mem_of_getElem? (i := 357) (by decide +kernel))) rfl), Or.inr ⟨rfl, rfl, rfl, tb_in (List.mem_append_right _ (List.mem_of_getElem? (i := 357) (by decide +kernel))) rfl⟩, rfl⟩
theorem g_M_47 : xm_gf "SnapshotVaultModel" 47 4 13 := ⟨_, _, _, _, cl_M, by decide, Or.inl (tb_in (List.mem_append_right _ (List.mem_of_getElem? (i := 358) (by decide +kernel))) rfl)⟩
theorem p_M_47 : xm_pf (xm_y m_M_init) 47 4 13 (.array .int) := ⟨_, _, _, _, cl_M, by decide, Or.inl (tb_in (List.mem_append_right _ (List.mem_of_getElem? (i := 358) (by decide +kernel))) rfl), Or.inr ⟨rfl, rfl, rfl, tb_in (List.mem_append_right _ (List.mem_of_getElem? (i := 358) (by decide +kernel))) rfl⟩, rfl⟩
theorem g_M_50 : xm_gf "SnapshotVaultModel" 50 4 14 := ⟨_, _, _, _, cl_M, by decide, Or.inl (tb_in (List.mem_append_right _ (List.mem_of_getElem? (i := 359) (by decide +kernel))) rfl)⟩
theorem p_M_50 : xm_pf (xm_y m_M_init) 50 4 14 (.array .int) := ⟨_, _, _, _, cl_M, by decide, Or.inl (tb_in (List.mem_append_right _ (List.mem_of_getElem? (i := 359) (by decide +kernel))) rfl), Or.inr ⟨rfl, rfl, rfl, tb_in (List.mem_append_right _ (List.mem_of_getElem? (i := 359) (by decide +kernel))) rfl⟩, rfl⟩
theorem g_M_53 : xm_gf "SnapshotVaultModel" 53 4 15 := ⟨_, _, _, _, cl_M, by decide, Or.inl (tb_in (List.mem_append_right _ (List.mem_of_getElem? (i := 360) (by decide +kernel))) rfl)⟩
theorem p_M_53 : xm_pf (xm_y m_M_init) 53 4 15 (.array .int) := ⟨_, _, _, _, cl_M, by decide, Or.inl (tb_in (List.mem_append_right _ (List.mem_of_getElem? (i := 360) (by decide +kernel))) rfl), Or.inr ⟨rfl, rfl, rfl, tb_in (List.mem_append_right _ (List.mem_of_getElem? (i := 360) (by decide +kernel))) rfl⟩, rfl⟩
theorem g_M_78 : xm_gf "SnapshotVaultModel" 78 4 16 := ⟨_, _, _, _, cl_M, by decide, Or.inl (tb_in (List.mem_append_right _ (List.mem_of_getElem? (i := 361) (by decide +kernel))) rfl)⟩
theorem p_M_78 (y : MethodName) (hy : y.cls = "SnapshotVaultModel") : xm_pf y 78 4 16 (.int) := ⟨_, _, _, _, cl_M, by decide, by rw [hy]; exact Or.inl (tb_in (List.mem_append_right _ (List.mem_of_getElem? (i := 361) (by decide +kernel))) rfl), Or.inl rfl, rfl⟩
theorem g_M_56 : xm_gf "SnapshotVaultModel" 56 4 17 := ⟨_, _, _, _, cl_M, by decide, Or.inl (tb_in (List.mem_append_right _ (List.mem_of_getElem? (i := 362) (by decide +kernel))) rfl)⟩
theorem p_M_56 : xm_pf (xm_y m_M_init) 56 4 17 (.array .int) := ⟨_, _, _, _, cl_M, by decide, Or.inl (tb_in (List.mem_append_right _ (List.mem_of_getElem? (i := 362) (by decide +kernel))) rfl), Or.inr ⟨rfl, rfl, rfl, tb_in (List.mem_append_right _ (List.mem_of_getElem? (i := 362) (by decide +kernel))) rfl⟩, rfl⟩
theorem g_M_59 : xm_gf "SnapshotVaultModel" 59 4 18 := ⟨_, _, _, _, cl_M, by decide, Or.inl (tb_in (List.mem_append_right _ (List.mem_of_getElem? (i := 363) (by decide +kernel))) rfl)⟩
theorem p_M_59 : xm_pf (xm_y m_M_init) 59 4 18 (.array .long) := ⟨_, _, _, _, cl_M, by decide, Or.inl (tb_in (List.mem_append_right _ (List.mem_of_getElem? (i := 363) (by decide +kernel))) rfl), Or.inr ⟨rfl, rfl, rfl, tb_in (List.mem_append_right _ (List.mem_of_getElem? (i := 363) (by decide +kernel))) rfl⟩, rfl⟩
theorem g_V_111 : xm_gf "SnapshotVault" 111 0 4 := ⟨_, _, _, _, cl_H, by decide, Or.inr ⟨"SnapshotVault", tb_nin (List.mem_append_right _ (List.mem_of_getElem? (i := 28) (by decide +kernel))) rfl⟩⟩
theorem g_V_72 : xm_gf "SnapshotVault" 72 1 0 := ⟨_, _, _, _, cl_R, by decide, Or.inr ⟨"SnapshotVault", tb_nin (List.mem_append_right _ (List.mem_of_getElem? (i := 51) (by decide +kernel))) rfl⟩⟩
theorem g_V_37 : xm_gf "SnapshotVault" 37 1 1 := ⟨_, _, _, _, cl_R, by decide, Or.inr ⟨"SnapshotVault", tb_nin (List.mem_append_right _ (List.mem_of_getElem? (i := 53) (by decide +kernel))) rfl⟩⟩
theorem g_V_49 : xm_gf "SnapshotVault" 49 1 2 := ⟨_, _, _, _, cl_R, by decide, Or.inr ⟨"SnapshotVault", tb_nin (List.mem_append_right _ (List.mem_of_getElem? (i := 55) (by decide +kernel))) rfl⟩⟩
theorem g_V_64 : xm_gf "SnapshotVault" 64 1 3 := ⟨_, _, _, _, cl_R, by decide, Or.inr ⟨"SnapshotVault", tb_nin (List.mem_append_right _ (List.mem_of_getElem? (i := 57) (by decide +kernel))) rfl⟩⟩
theorem p_V_64 (y : MethodName) (hy : y.cls = "SnapshotVault") : xm_pf y 64 1 3 (.long) := ⟨_, _, _, _, cl_R, by decide, by rw [hy]; exact Or.inr ⟨"SnapshotVault", tb_nin (List.mem_append_right _ (List.mem_of_getElem? (i := 57) (by decide +kernel))) rfl⟩, Or.inl rfl, rfl⟩
theorem g_V_76 : xm_gf "SnapshotVault" 76 1 4 := ⟨_, _, _, _, cl_R, by decide, Or.inr ⟨"SnapshotVault", tb_nin (List.mem_append_right _ (List.mem_of_getElem? (i := 59) (by decide +kernel))) rfl⟩⟩
theorem p_V_76 (y : MethodName) (hy : y.cls = "SnapshotVault") : xm_pf y 76 1 4 (.int) := ⟨_, _, _, _, cl_R, by decide, by rw [hy]; exact Or.inr ⟨"SnapshotVault", tb_nin (List.mem_append_right _ (List.mem_of_getElem? (i := 59) (by decide +kernel))) rfl⟩, Or.inl rfl, rfl⟩
theorem g_V_157 : xm_gf "SnapshotVault" 157 2 0 := ⟨_, _, _, _, cl_U, by decide, Or.inr ⟨"SnapshotVault", tb_nin (List.mem_append_right _ (List.mem_of_getElem? (i := 80) (by decide +kernel))) rfl⟩⟩
theorem c_L_9 : xm_cn "SnapshotVaultLaw" 9 m_V_init 0 := ⟨ok_V_init, rfl, Or.inl (tb_in (List.mem_append_right _ (List.mem_of_getElem? (i := 11) (by decide +kernel))) rfl), rfl, wm_V_init, by unfold xm_np; decide +kernel⟩
theorem c_V_1 : xm_oi "SnapshotVault" 1 := ⟨tb_in (List.mem_append_right _ (List.mem_of_getElem? (i := 14) (by decide +kernel))) rfl, tb_in (List.mem_append_right _ (List.mem_of_getElem? (i := 15) (by decide +kernel))) rfl, tb_in (List.mem_append_right _ (List.mem_of_getElem? (i := 16) (by decide +kernel))) rfl⟩
theorem c_V_9 : xm_cn "SnapshotVault" 9 m_H_init 0 := ⟨ok_H_init, rfl, Or.inl (tb_in (List.mem_append_right _ (List.mem_of_getElem? (i := 19) (by decide +kernel))) rfl), rfl, wm_H_init, by unfold xm_np; decide +kernel⟩
theorem c_H_3 : xm_oi "SnapshotVault$History" 3 := ⟨tb_in (List.mem_append_right _ (List.mem_of_getElem? (i := 22) (by decide +kernel))) rfl, tb_in (List.mem_append_right _ (List.mem_of_getElem? (i := 15) (by decide +kernel))) rfl, tb_in (List.mem_append_right _ (List.mem_of_getElem? (i := 16) (by decide +kernel))) rfl⟩
theorem c_V_22 : xm_cn "SnapshotVault" 22 m_R_init 0 := ⟨ok_R_init, rfl, Or.inl (tb_in (List.mem_append_right _ (List.mem_of_getElem? (i := 45) (by decide +kernel))) rfl), rfl, wm_R_init, by unfold xm_np; decide +kernel⟩
theorem c_R_3 : xm_oi "SnapshotVault$Repository" 3 := ⟨tb_in (List.mem_append_right _ (List.mem_of_getElem? (i := 48) (by decide +kernel))) rfl, tb_in (List.mem_append_right _ (List.mem_of_getElem? (i := 15) (by decide +kernel))) rfl, tb_in (List.mem_append_right _ (List.mem_of_getElem? (i := 16) (by decide +kernel))) rfl⟩
theorem c_V_25 : xm_cn "SnapshotVault" 25 m_U_init 0 := ⟨ok_U_init, rfl, Or.inl (tb_in (List.mem_append_right _ (List.mem_of_getElem? (i := 73) (by decide +kernel))) rfl), rfl, wm_U_init, by unfold xm_np; decide +kernel⟩
theorem c_U_3 : xm_oi "SnapshotVault$Uniter" 3 := ⟨tb_in (List.mem_append_right _ (List.mem_of_getElem? (i := 76) (by decide +kernel))) rfl, tb_in (List.mem_append_right _ (List.mem_of_getElem? (i := 15) (by decide +kernel))) rfl, tb_in (List.mem_append_right _ (List.mem_of_getElem? (i := 16) (by decide +kernel))) rfl⟩
theorem c_L_15 : xm_cv "SnapshotVaultLaw" 15 m_V_write 4 3 := ⟨ok_V_write, Or.inl (tb_in (List.mem_append_right _ (List.mem_of_getElem? (i := 103) (by decide +kernel))) rfl), wm_V_write, we_V_write, by unfold xm_np; decide +kernel, _, _, _, _, cl_V, rfl⟩
theorem c_V_30 : xm_cs "SnapshotVault" 30 m_V_isRepository 1 := ⟨ok_V_isRepository, Or.inl (tb_in (List.mem_append_right _ (List.mem_of_getElem? (i := 107) (by decide +kernel))) rfl), wt_V_isRepository, by unfold xm_np; decide +kernel⟩
theorem c_V_34 : xm_cs "SnapshotVault" 34 m_V_isFile 1 := ⟨ok_V_isFile, Or.inl (tb_in (List.mem_append_right _ (List.mem_of_getElem? (i := 110) (by decide +kernel))) rfl), wt_V_isFile, by unfold xm_np; decide +kernel⟩
theorem c_V_41 : xm_cs "SnapshotVault" 41 m_T_pack 2 := ⟨ok_T_pack, Or.inl (tb_in (List.mem_append_right _ (List.mem_of_getElem? (i := 113) (by decide +kernel))) rfl), wt_T_pack, by unfold xm_np; decide +kernel⟩
theorem c_L_20 : xm_cv "SnapshotVaultLaw" 20 m_V_remove 2 3 := ⟨ok_V_remove, Or.inl (tb_in (List.mem_append_right _ (List.mem_of_getElem? (i := 116) (by decide +kernel))) rfl), wm_V_remove, we_V_remove, by unfold xm_np; decide +kernel, _, _, _, _, cl_V, rfl⟩
theorem c_L_25 : xm_cv "SnapshotVaultLaw" 25 m_V_stage 2 3 := ⟨ok_V_stage, Or.inl (tb_in (List.mem_append_right _ (List.mem_of_getElem? (i := 121) (by decide +kernel))) rfl), wm_V_stage, we_V_stage, by unfold xm_np; decide +kernel, _, _, _, _, cl_V, rfl⟩
theorem c_L_29 : xm_cv "SnapshotVaultLaw" 29 m_V_commit 1 3 := ⟨ok_V_commit, Or.inl (tb_in (List.mem_append_right _ (List.mem_of_getElem? (i := 125) (by decide +kernel))) rfl), wm_V_commit, we_V_commit, by unfold xm_np; decide +kernel, _, _, _, _, cl_V, rfl⟩
theorem c_V_52 : xm_cv "SnapshotVault" 52 m_R_head 0 1 := ⟨ok_R_head, Or.inl (tb_in (List.mem_append_right _ (List.mem_of_getElem? (i := 129) (by decide +kernel))) rfl), wm_R_head, we_R_head, by unfold xm_np; decide +kernel, _, _, _, _, cl_R, rfl⟩
theorem c_V_56 : xm_cv "SnapshotVault" 56 m_H_hasSnapshot 2 0 := ⟨ok_H_hasSnapshot, Or.inl (tb_in (List.mem_append_right _ (List.mem_of_getElem? (i := 133) (by decide +kernel))) rfl), wm_H_hasSnapshot, we_H_hasSnapshot, by unfold xm_np; decide +kernel, _, _, _, _, cl_H, rfl⟩
theorem c_H_35 : xm_cv "SnapshotVault$History" 35 m_H_textOf 2 0 := ⟨ok_H_textOf, Or.inl (tb_in (List.mem_append_right _ (List.mem_of_getElem? (i := 137) (by decide +kernel))) rfl), wm_H_textOf, we_H_textOf, by unfold xm_np; decide +kernel, _, _, _, _, cl_H, rfl⟩
theorem c_H_29 : xm_cv "SnapshotVault$History" 29 m_H_isMade 1 0 := ⟨ok_H_isMade, Or.inl (tb_in (List.mem_append_right _ (List.mem_of_getElem? (i := 141) (by decide +kernel))) rfl), wm_H_isMade, we_H_isMade, by unfold xm_np; decide +kernel, _, _, _, _, cl_H, rfl⟩
theorem c_V_60 : xm_cv "SnapshotVault" 60 m_H_add 3 0 := ⟨ok_H_add, Or.inl (tb_in (List.mem_append_right _ (List.mem_of_getElem? (i := 146) (by decide +kernel))) rfl), wm_H_add, we_H_add, by unfold xm_np; decide +kernel, _, _, _, _, cl_H, rfl⟩
theorem c_H_39 : xm_cv "SnapshotVault$History" 39 m_H_reachOf 1 0 := ⟨ok_H_reachOf, Or.inl (tb_in (List.mem_append_right _ (List.mem_of_getElem? (i := 150) (by decide +kernel))) rfl), wm_H_reachOf, we_H_reachOf, by unfold xm_np; decide +kernel, _, _, _, _, cl_H, rfl⟩
theorem c_V_68 : xm_cv "SnapshotVault" 68 m_H_reachOf 1 0 := ⟨ok_H_reachOf, Or.inl (tb_in (List.mem_append_right _ (List.mem_of_getElem? (i := 154) (by decide +kernel))) rfl), wm_H_reachOf, we_H_reachOf, by unfold xm_np; decide +kernel, _, _, _, _, cl_H, rfl⟩
theorem c_L_34 : xm_cv "SnapshotVaultLaw" 34 m_V_branch 2 3 := ⟨ok_V_branch, Or.inl (tb_in (List.mem_append_right _ (List.mem_of_getElem? (i := 155) (by decide +kernel))) rfl), wm_V_branch, we_V_branch, by unfold xm_np; decide +kernel, _, _, _, _, cl_V, rfl⟩
theorem c_V_80 : xm_cs "SnapshotVault" 80 m_V_isBranch 1 := ⟨ok_V_isBranch, Or.inl (tb_in (List.mem_append_right _ (List.mem_of_getElem? (i := 159) (by decide +kernel))) rfl), wt_V_isBranch, by unfold xm_np; decide +kernel⟩
theorem c_L_38 : xm_cv "SnapshotVaultLaw" 38 m_V_drop 2 3 := ⟨ok_V_drop, Or.inl (tb_in (List.mem_append_right _ (List.mem_of_getElem? (i := 162) (by decide +kernel))) rfl), wm_V_drop, we_V_drop, by unfold xm_np; decide +kernel, _, _, _, _, cl_V, rfl⟩
theorem c_L_42 : xm_cv "SnapshotVaultLaw" 42 m_V_checkout 2 3 := ⟨ok_V_checkout, Or.inl (tb_in (List.mem_append_right _ (List.mem_of_getElem? (i := 166) (by decide +kernel))) rfl), wm_V_checkout, we_V_checkout, by unfold xm_np; decide +kernel, _, _, _, _, cl_V, rfl⟩
theorem c_V_83 : xm_cv "SnapshotVault" 83 m_V_isClean 1 3 := ⟨ok_V_isClean, Or.inl (tb_in (List.mem_append_right _ (List.mem_of_getElem? (i := 170) (by decide +kernel))) rfl), wm_V_isClean, we_V_isClean, by unfold xm_np; decide +kernel, _, _, _, _, cl_V, rfl⟩
theorem c_V_87 : xm_cv "SnapshotVault" 87 m_V_moveTo 2 3 := ⟨ok_V_moveTo, Or.inl (tb_in (List.mem_append_right _ (List.mem_of_getElem? (i := 174) (by decide +kernel))) rfl), wm_V_moveTo, we_V_moveTo, by unfold xm_np; decide +kernel, _, _, _, _, cl_V, rfl⟩
theorem c_V_149 : xm_cv "SnapshotVault" 149 m_H_copySnapshot 2 0 := ⟨ok_H_copySnapshot, Or.inl (tb_in (List.mem_append_right _ (List.mem_of_getElem? (i := 178) (by decide +kernel))) rfl), wm_H_copySnapshot, we_H_copySnapshot, by unfold xm_np; decide +kernel, _, _, _, _, cl_H, rfl⟩
theorem c_L_47 : xm_cv "SnapshotVaultLaw" 47 m_V_merge 2 3 := ⟨ok_V_merge, Or.inl (tb_in (List.mem_append_right _ (List.mem_of_getElem? (i := 182) (by decide +kernel))) rfl), wm_V_merge, we_V_merge, by unfold xm_np; decide +kernel, _, _, _, _, cl_V, rfl⟩
theorem c_V_91 : xm_cv "SnapshotVault" 91 m_V_refusalToChangeHead 2 3 := ⟨ok_V_refusalToChangeHead, Or.inl (tb_in (List.mem_append_right _ (List.mem_of_getElem? (i := 186) (by decide +kernel))) rfl), wm_V_refusalToChangeHead, we_V_refusalToChangeHead, by unfold xm_np; decide +kernel, _, _, _, _, cl_V, rfl⟩
theorem c_V_95 : xm_cv "SnapshotVault" 95 m_H_reaches 2 0 := ⟨ok_H_reaches, Or.inl (tb_in (List.mem_append_right _ (List.mem_of_getElem? (i := 190) (by decide +kernel))) rfl), wm_H_reaches, we_H_reaches, by unfold xm_np; decide +kernel, _, _, _, _, cl_H, rfl⟩
theorem c_H_43 : xm_cs "SnapshotVault$History" 43 m_H_isIn 2 := ⟨ok_H_isIn, Or.inl (tb_in (List.mem_append_right _ (List.mem_of_getElem? (i := 194) (by decide +kernel))) rfl), wt_H_isIn, by unfold xm_np; decide +kernel⟩
theorem c_V_99 : xm_cv "SnapshotVault" 99 m_V_joinCommits 2 3 := ⟨ok_V_joinCommits, Or.inl (tb_in (List.mem_append_right _ (List.mem_of_getElem? (i := 197) (by decide +kernel))) rfl), wm_V_joinCommits, we_V_joinCommits, by unfold xm_np; decide +kernel, _, _, _, _, cl_V, rfl⟩
theorem c_V_142 : xm_cv "SnapshotVault" 142 m_H_baseOf 2 0 := ⟨ok_H_baseOf, Or.inl (tb_in (List.mem_append_right _ (List.mem_of_getElem? (i := 201) (by decide +kernel))) rfl), wm_H_baseOf, we_H_baseOf, by unfold xm_np; decide +kernel, _, _, _, _, cl_H, rfl⟩
theorem c_H_47 : xm_cv "SnapshotVault$History" 47 m_H_isReachedByLater 2 0 := ⟨ok_H_isReachedByLater, Or.inl (tb_in (List.mem_append_right _ (List.mem_of_getElem? (i := 205) (by decide +kernel))) rfl), wm_H_isReachedByLater, we_H_isReachedByLater, by unfold xm_np; decide +kernel, _, _, _, _, cl_H, rfl⟩
theorem c_H_50 : xm_cv "SnapshotVault$History" 50 m_H_reaches 2 0 := ⟨ok_H_reaches, Or.inl (tb_in (List.mem_append_right _ (List.mem_of_getElem? (i := 209) (by decide +kernel))) rfl), wm_H_reaches, we_H_reaches, by unfold xm_np; decide +kernel, _, _, _, _, cl_H, rfl⟩
theorem c_V_153 : xm_cv "SnapshotVault" 153 m_U_uniteSnapshots 4 2 := ⟨ok_U_uniteSnapshots, Or.inl (tb_in (List.mem_append_right _ (List.mem_of_getElem? (i := 210) (by decide +kernel))) rfl), wm_U_uniteSnapshots, we_U_uniteSnapshots, by unfold xm_np; decide +kernel, _, _, _, _, cl_U, rfl⟩
theorem c_U_27 : xm_cv "SnapshotVault$Uniter" 27 m_H_textOf 2 0 := ⟨ok_H_textOf, Or.inl (tb_in (List.mem_append_right _ (List.mem_of_getElem? (i := 214) (by decide +kernel))) rfl), wm_H_textOf, we_H_textOf, by unfold xm_np; decide +kernel, _, _, _, _, cl_H, rfl⟩
theorem c_U_33 : xm_cs "SnapshotVault$Uniter" 33 m_U_take 3 := ⟨ok_U_take, Or.inl (tb_in (List.mem_append_right _ (List.mem_of_getElem? (i := 215) (by decide +kernel))) rfl), wt_U_take, by unfold xm_np; decide +kernel⟩
theorem c_U_41 : xm_cv "SnapshotVault$Uniter" 41 m_U_uniteTexts 3 2 := ⟨ok_U_uniteTexts, Or.inl (tb_in (List.mem_append_right _ (List.mem_of_getElem? (i := 220) (by decide +kernel))) rfl), wm_U_uniteTexts, we_U_uniteTexts, by unfold xm_np; decide +kernel, _, _, _, _, cl_U, rfl⟩
theorem c_U_44 : xm_cv "SnapshotVault$Uniter" 44 m_U_countCommon 2 2 := ⟨ok_U_countCommon, Or.inl (tb_in (List.mem_append_right _ (List.mem_of_getElem? (i := 224) (by decide +kernel))) rfl), wm_U_countCommon, we_U_countCommon, by unfold xm_np; decide +kernel, _, _, _, _, cl_U, rfl⟩
theorem c_U_52 : xm_cs "SnapshotVault$Uniter" 52 m_T_countOf 1 := ⟨ok_T_countOf, Or.inl (tb_in (List.mem_append_right _ (List.mem_of_getElem? (i := 228) (by decide +kernel))) rfl), wt_T_countOf, by unfold xm_np; decide +kernel⟩
theorem c_U_66 : xm_cs "SnapshotVault$Uniter" 66 m_T_lineAt 2 := ⟨ok_T_lineAt, Or.inl (tb_in (List.mem_append_right _ (List.mem_of_getElem? (i := 231) (by decide +kernel))) rfl), wt_T_lineAt, by unfold xm_np; decide +kernel⟩
theorem c_U_70 : xm_mx "SnapshotVault$Uniter" 70 := ⟨tb_in (List.mem_append_right _ (List.mem_of_getElem? (i := 235) (by decide +kernel))) rfl, tb_in (List.mem_append_right _ (List.mem_of_getElem? (i := 236) (by decide +kernel))) rfl, wi_Y, tb_in (List.mem_append_right _ (List.mem_of_getElem? (i := 237) (by decide +kernel))) rfl⟩
theorem c_U_48 : xm_cv "SnapshotVault$Uniter" 48 m_U_matchLines 3 2 := ⟨ok_U_matchLines, Or.inl (tb_in (List.mem_append_right _ (List.mem_of_getElem? (i := 238) (by decide +kernel))) rfl), wm_U_matchLines, we_U_matchLines, by unfold xm_np; decide +kernel, _, _, _, _, cl_U, rfl⟩
theorem c_U_58 : xm_cs "SnapshotVault$Uniter" 58 m_T_piece 3 := ⟨ok_T_piece, Or.inl (tb_in (List.mem_append_right _ (List.mem_of_getElem? (i := 242) (by decide +kernel))) rfl), wt_T_piece, by unfold xm_np; decide +kernel⟩
theorem c_T_13 : xm_cs "SnapshotVault$Texts" 13 m_T_pack 2 := ⟨ok_T_pack, Or.inl (tb_in (List.mem_append_right _ (List.mem_of_getElem? (i := 245) (by decide +kernel))) rfl), wt_T_pack, by unfold xm_np; decide +kernel⟩
theorem c_U_62 : xm_cs "SnapshotVault$Uniter" 62 m_T_join 2 := ⟨ok_T_join, Or.inl (tb_in (List.mem_append_right _ (List.mem_of_getElem? (i := 246) (by decide +kernel))) rfl), wt_T_join, by unfold xm_np; decide +kernel⟩
theorem c_T_19 : xm_cs "SnapshotVault$Texts" 19 m_T_countOf 1 := ⟨ok_T_countOf, Or.inl (tb_in (List.mem_append_right _ (List.mem_of_getElem? (i := 250) (by decide +kernel))) rfl), wt_T_countOf, by unfold xm_np; decide +kernel⟩
theorem c_L_51 : xm_cv "SnapshotVaultLaw" 51 m_V_pick 2 3 := ⟨ok_V_pick, Or.inl (tb_in (List.mem_append_right _ (List.mem_of_getElem? (i := 252) (by decide +kernel))) rfl), wm_V_pick, we_V_pick, by unfold xm_np; decide +kernel, _, _, _, _, cl_V, rfl⟩
theorem c_V_102 : xm_cv "SnapshotVault" 102 m_V_isHeld 2 3 := ⟨ok_V_isHeld, Or.inl (tb_in (List.mem_append_right _ (List.mem_of_getElem? (i := 256) (by decide +kernel))) rfl), wm_V_isHeld, we_V_isHeld, by unfold xm_np; decide +kernel, _, _, _, _, cl_V, rfl⟩
theorem c_V_128 : xm_cv "SnapshotVault" 128 m_H_isMade 1 0 := ⟨ok_H_isMade, Or.inl (tb_in (List.mem_append_right _ (List.mem_of_getElem? (i := 260) (by decide +kernel))) rfl), wm_H_isMade, we_H_isMade, by unfold xm_np; decide +kernel, _, _, _, _, cl_H, rfl⟩
theorem c_V_145 : xm_cs "SnapshotVault" 145 m_H_isIn 2 := ⟨ok_H_isIn, Or.inl (tb_in (List.mem_append_right _ (List.mem_of_getElem? (i := 261) (by decide +kernel))) rfl), wt_H_isIn, by unfold xm_np; decide +kernel⟩
theorem c_V_106 : xm_cv "SnapshotVault" 106 m_V_doAgain 2 3 := ⟨ok_V_doAgain, Or.inl (tb_in (List.mem_append_right _ (List.mem_of_getElem? (i := 262) (by decide +kernel))) rfl), wm_V_doAgain, we_V_doAgain, by unfold xm_np; decide +kernel, _, _, _, _, cl_V, rfl⟩
theorem c_V_135 : xm_cv "SnapshotVault" 135 m_H_secondParentOf 1 0 := ⟨ok_H_secondParentOf, Or.inl (tb_in (List.mem_append_right _ (List.mem_of_getElem? (i := 266) (by decide +kernel))) rfl), wm_H_secondParentOf, we_H_secondParentOf, by unfold xm_np; decide +kernel, _, _, _, _, cl_H, rfl⟩
theorem c_V_131 : xm_cv "SnapshotVault" 131 m_H_firstParentOf 1 0 := ⟨ok_H_firstParentOf, Or.inl (tb_in (List.mem_append_right _ (List.mem_of_getElem? (i := 270) (by decide +kernel))) rfl), wm_H_firstParentOf, we_H_firstParentOf, by unfold xm_np; decide +kernel, _, _, _, _, cl_H, rfl⟩
theorem c_L_55 : xm_cv "SnapshotVaultLaw" 55 m_V_rebase 2 3 := ⟨ok_V_rebase, Or.inl (tb_in (List.mem_append_right _ (List.mem_of_getElem? (i := 274) (by decide +kernel))) rfl), wm_V_rebase, we_V_rebase, by unfold xm_np; decide +kernel, _, _, _, _, cl_V, rfl⟩
theorem c_V_114 : xm_cv "SnapshotVault" 114 m_V_doAllAgain 2 3 := ⟨ok_V_doAllAgain, Or.inl (tb_in (List.mem_append_right _ (List.mem_of_getElem? (i := 279) (by decide +kernel))) rfl), wm_V_doAllAgain, we_V_doAllAgain, by unfold xm_np; decide +kernel, _, _, _, _, cl_V, rfl⟩
theorem c_V_118 : xm_cv "SnapshotVault" 118 m_H_cutBackTo 1 0 := ⟨ok_H_cutBackTo, Or.inl (tb_in (List.mem_append_right _ (List.mem_of_getElem? (i := 283) (by decide +kernel))) rfl), wm_H_cutBackTo, we_H_cutBackTo, by unfold xm_np; decide +kernel, _, _, _, _, cl_H, rfl⟩
theorem c_L_59 : xm_cv "SnapshotVaultLaw" 59 m_V_collect 1 3 := ⟨ok_V_collect, Or.inl (tb_in (List.mem_append_right _ (List.mem_of_getElem? (i := 287) (by decide +kernel))) rfl), wm_V_collect, we_V_collect, by unfold xm_np; decide +kernel, _, _, _, _, cl_V, rfl⟩
theorem c_V_122 : xm_cs "SnapshotVault" 122 m_J_bitCount 1 := ⟨ok_J_bitCount, Or.inl (tb_in (List.mem_append_right _ (List.mem_of_getElem? (i := 291) (by decide +kernel))) rfl), wt_J_bitCount, by unfold xm_np; decide +kernel⟩
theorem c_L_63 : xm_cv "SnapshotVaultLaw" 63 m_V_send 2 3 := ⟨ok_V_send, Or.inl (tb_in (List.mem_append_right _ (List.mem_of_getElem? (i := 297) (by decide +kernel))) rfl), wm_V_send, we_V_send, by unfold xm_np; decide +kernel, _, _, _, _, cl_V, rfl⟩
theorem c_L_67 : xm_cv "SnapshotVaultLaw" 67 m_V_current 1 3 := ⟨ok_V_current, Or.inl (tb_in (List.mem_append_right _ (List.mem_of_getElem? (i := 301) (by decide +kernel))) rfl), wm_V_current, we_V_current, by unfold xm_np; decide +kernel, _, _, _, _, cl_V, rfl⟩
theorem c_L_71 : xm_cv "SnapshotVaultLaw" 71 m_V_tip 2 3 := ⟨ok_V_tip, Or.inl (tb_in (List.mem_append_right _ (List.mem_of_getElem? (i := 305) (by decide +kernel))) rfl), wm_V_tip, we_V_tip, by unfold xm_np; decide +kernel, _, _, _, _, cl_V, rfl⟩
theorem c_L_75 : xm_cv "SnapshotVaultLaw" 75 m_V_holds 2 3 := ⟨ok_V_holds, Or.inl (tb_in (List.mem_append_right _ (List.mem_of_getElem? (i := 309) (by decide +kernel))) rfl), wm_V_holds, we_V_holds, by unfold xm_np; decide +kernel, _, _, _, _, cl_V, rfl⟩
theorem c_L_79 : xm_cv "SnapshotVaultLaw" 79 m_V_commits 0 3 := ⟨ok_V_commits, Or.inl (tb_in (List.mem_append_right _ (List.mem_of_getElem? (i := 313) (by decide +kernel))) rfl), wm_V_commits, we_V_commits, by unfold xm_np; decide +kernel, _, _, _, _, cl_V, rfl⟩
theorem c_L_84 : xm_cv "SnapshotVaultLaw" 84 m_V_parent 2 3 := ⟨ok_V_parent, Or.inl (tb_in (List.mem_append_right _ (List.mem_of_getElem? (i := 317) (by decide +kernel))) rfl), wm_V_parent, we_V_parent, by unfold xm_np; decide +kernel, _, _, _, _, cl_V, rfl⟩
theorem c_L_88 : xm_cv "SnapshotVaultLaw" 88 m_V_text 2 3 := ⟨ok_V_text, Or.inl (tb_in (List.mem_append_right _ (List.mem_of_getElem? (i := 321) (by decide +kernel))) rfl), wm_V_text, we_V_text, by unfold xm_np; decide +kernel, _, _, _, _, cl_V, rfl⟩
theorem c_V_138 : xm_cv "SnapshotVault" 138 m_H_textOf 2 0 := ⟨ok_H_textOf, Or.inl (tb_in (List.mem_append_right _ (List.mem_of_getElem? (i := 325) (by decide +kernel))) rfl), wm_H_textOf, we_H_textOf, by unfold xm_np; decide +kernel, _, _, _, _, cl_H, rfl⟩
theorem c_L_93 : xm_cv "SnapshotVaultLaw" 93 m_V_working 2 3 := ⟨ok_V_working, Or.inl (tb_in (List.mem_append_right _ (List.mem_of_getElem? (i := 326) (by decide +kernel))) rfl), wm_V_working, we_V_working, by unfold xm_np; decide +kernel, _, _, _, _, cl_V, rfl⟩
theorem c_L_97 : xm_cv "SnapshotVaultLaw" 97 m_V_staged 2 3 := ⟨ok_V_staged, Or.inl (tb_in (List.mem_append_right _ (List.mem_of_getElem? (i := 330) (by decide +kernel))) rfl), wm_V_staged, we_V_staged, by unfold xm_np; decide +kernel, _, _, _, _, cl_V, rfl⟩
theorem c_L_101 : xm_cv "SnapshotVaultLaw" 101 m_V_base 2 3 := ⟨ok_V_base, Or.inl (tb_in (List.mem_append_right _ (List.mem_of_getElem? (i := 334) (by decide +kernel))) rfl), wm_V_base, we_V_base, by unfold xm_np; decide +kernel, _, _, _, _, cl_V, rfl⟩
theorem c_L_12 : xm_cn "SnapshotVaultLaw" 12 m_M_init 0 := ⟨ok_M_init, rfl, Or.inl (tb_in (List.mem_append_right _ (List.mem_of_getElem? (i := 340) (by decide +kernel))) rfl), rfl, wm_M_init, by unfold xm_np; decide +kernel⟩
theorem c_M_1 : xm_oi "SnapshotVaultModel" 1 := ⟨tb_in (List.mem_append_right _ (List.mem_of_getElem? (i := 343) (by decide +kernel))) rfl, tb_in (List.mem_append_right _ (List.mem_of_getElem? (i := 15) (by decide +kernel))) rfl, tb_in (List.mem_append_right _ (List.mem_of_getElem? (i := 16) (by decide +kernel))) rfl⟩
theorem c_L_19 : xm_cv "SnapshotVaultLaw" 19 m_M_write 4 4 := ⟨ok_M_write, Or.inl (tb_in (List.mem_append_right _ (List.mem_of_getElem? (i := 403) (by decide +kernel))) rfl), wm_M_write, we_M_write, by unfold xm_np; decide +kernel, _, _, _, _, cl_M, rfl⟩
theorem c_M_123 : xm_cs "SnapshotVaultModel" 123 m_M_out 2 := ⟨ok_M_out, Or.inl (tb_in (List.mem_append_right _ (List.mem_of_getElem? (i := 407) (by decide +kernel))) rfl), wt_M_out, by unfold xm_np; decide +kernel⟩
theorem c_L_24 : xm_cv "SnapshotVaultLaw" 24 m_M_remove 2 4 := ⟨ok_M_remove, Or.inl (tb_in (List.mem_append_right _ (List.mem_of_getElem? (i := 411) (by decide +kernel))) rfl), wm_M_remove, we_M_remove, by unfold xm_np; decide +kernel, _, _, _, _, cl_M, rfl⟩
theorem c_L_28 : xm_cv "SnapshotVaultLaw" 28 m_M_stage 2 4 := ⟨ok_M_stage, Or.inl (tb_in (List.mem_append_right _ (List.mem_of_getElem? (i := 415) (by decide +kernel))) rfl), wm_M_stage, we_M_stage, by unfold xm_np; decide +kernel, _, _, _, _, cl_M, rfl⟩
theorem c_L_33 : xm_cv "SnapshotVaultLaw" 33 m_M_commit 1 4 := ⟨ok_M_commit, Or.inl (tb_in (List.mem_append_right _ (List.mem_of_getElem? (i := 419) (by decide +kernel))) rfl), wm_M_commit, we_M_commit, by unfold xm_np; decide +kernel, _, _, _, _, cl_M, rfl⟩
theorem c_M_119 : xm_cv "SnapshotVaultModel" 119 m_M_sameAsHead 2 4 := ⟨ok_M_sameAsHead, Or.inl (tb_in (List.mem_append_right _ (List.mem_of_getElem? (i := 423) (by decide +kernel))) rfl), wm_M_sameAsHead, we_M_sameAsHead, by unfold xm_np; decide +kernel, _, _, _, _, cl_M, rfl⟩
theorem c_M_111 : xm_cv "SnapshotVaultModel" 111 m_M_head 1 4 := ⟨ok_M_head, Or.inl (tb_in (List.mem_append_right _ (List.mem_of_getElem? (i := 427) (by decide +kernel))) rfl), wm_M_head, we_M_head, by unfold xm_np; decide +kernel, _, _, _, _, cl_M, rfl⟩
theorem c_M_115 : xm_cv "SnapshotVaultModel" 115 m_M_textOf 2 4 := ⟨ok_M_textOf, Or.inl (tb_in (List.mem_append_right _ (List.mem_of_getElem? (i := 431) (by decide +kernel))) rfl), wm_M_textOf, we_M_textOf, by unfold xm_np; decide +kernel, _, _, _, _, cl_M, rfl⟩
theorem c_M_126 : xm_cv "SnapshotVaultModel" 126 m_M_make 3 4 := ⟨ok_M_make, Or.inl (tb_in (List.mem_append_right _ (List.mem_of_getElem? (i := 435) (by decide +kernel))) rfl), wm_M_make, we_M_make, by unfold xm_np; decide +kernel, _, _, _, _, cl_M, rfl⟩
theorem c_L_37 : xm_cv "SnapshotVaultLaw" 37 m_M_branch 2 4 := ⟨ok_M_branch, Or.inl (tb_in (List.mem_append_right _ (List.mem_of_getElem? (i := 439) (by decide +kernel))) rfl), wm_M_branch, we_M_branch, by unfold xm_np; decide +kernel, _, _, _, _, cl_M, rfl⟩
theorem c_M_130 : xm_cv "SnapshotVaultModel" 130 m_M_there 2 4 := ⟨ok_M_there, Or.inl (tb_in (List.mem_append_right _ (List.mem_of_getElem? (i := 443) (by decide +kernel))) rfl), wm_M_there, we_M_there, by unfold xm_np; decide +kernel, _, _, _, _, cl_M, rfl⟩
theorem c_L_41 : xm_cv "SnapshotVaultLaw" 41 m_M_drop 2 4 := ⟨ok_M_drop, Or.inl (tb_in (List.mem_append_right _ (List.mem_of_getElem? (i := 447) (by decide +kernel))) rfl), wm_M_drop, we_M_drop, by unfold xm_np; decide +kernel, _, _, _, _, cl_M, rfl⟩
theorem c_L_46 : xm_cv "SnapshotVaultLaw" 46 m_M_checkout 2 4 := ⟨ok_M_checkout, Or.inl (tb_in (List.mem_append_right _ (List.mem_of_getElem? (i := 451) (by decide +kernel))) rfl), wm_M_checkout, we_M_checkout, by unfold xm_np; decide +kernel, _, _, _, _, cl_M, rfl⟩
theorem c_M_133 : xm_cv "SnapshotVaultModel" 133 m_M_dirty 1 4 := ⟨ok_M_dirty, Or.inl (tb_in (List.mem_append_right _ (List.mem_of_getElem? (i := 455) (by decide +kernel))) rfl), wm_M_dirty, we_M_dirty, by unfold xm_np; decide +kernel, _, _, _, _, cl_M, rfl⟩
theorem c_M_137 : xm_cv "SnapshotVaultModel" 137 m_M_moveTo 2 4 := ⟨ok_M_moveTo, Or.inl (tb_in (List.mem_append_right _ (List.mem_of_getElem? (i := 459) (by decide +kernel))) rfl), wm_M_moveTo, we_M_moveTo, by unfold xm_np; decide +kernel, _, _, _, _, cl_M, rfl⟩
theorem c_L_50 : xm_cv "SnapshotVaultLaw" 50 m_M_merge 2 4 := ⟨ok_M_merge, Or.inl (tb_in (List.mem_append_right _ (List.mem_of_getElem? (i := 463) (by decide +kernel))) rfl), wm_M_merge, we_M_merge, by unfold xm_np; decide +kernel, _, _, _, _, cl_M, rfl⟩
theorem c_M_107 : xm_cv "SnapshotVaultModel" 107 m_M_reaches 2 4 := ⟨ok_M_reaches, Or.inl (tb_in (List.mem_append_right _ (List.mem_of_getElem? (i := 467) (by decide +kernel))) rfl), wm_M_reaches, we_M_reaches, by unfold xm_np; decide +kernel, _, _, _, _, cl_M, rfl⟩
theorem c_M_100 : xm_cv "SnapshotVaultModel" 100 m_M_reached 1 4 := ⟨ok_M_reached, Or.inl (tb_in (List.mem_append_right _ (List.mem_of_getElem? (i := 471) (by decide +kernel))) rfl), wm_M_reached, we_M_reached, by unfold xm_np; decide +kernel, _, _, _, _, cl_M, rfl⟩
theorem c_M_141 : xm_cv "SnapshotVaultModel" 141 m_M_baseOf 2 4 := ⟨ok_M_baseOf, Or.inl (tb_in (List.mem_append_right _ (List.mem_of_getElem? (i := 475) (by decide +kernel))) rfl), wm_M_baseOf, we_M_baseOf, by unfold xm_np; decide +kernel, _, _, _, _, cl_M, rfl⟩
theorem c_M_144 : xm_cv "SnapshotVaultModel" 144 m_M_unite 0 4 := ⟨ok_M_unite, Or.inl (tb_in (List.mem_append_right _ (List.mem_of_getElem? (i := 479) (by decide +kernel))) rfl), wm_M_unite, we_M_unite, by unfold xm_np; decide +kernel, _, _, _, _, cl_M, rfl⟩
theorem c_M_96 : xm_cv "SnapshotVaultModel" 96 m_M_uniteTexts 3 4 := ⟨ok_M_uniteTexts, Or.inl (tb_in (List.mem_append_right _ (List.mem_of_getElem? (i := 484) (by decide +kernel))) rfl), wm_M_uniteTexts, we_M_uniteTexts, by unfold xm_np; decide +kernel, _, _, _, _, cl_M, rfl⟩
theorem c_M_66 : xm_cs "SnapshotVaultModel" 66 m_M_size 1 := ⟨ok_M_size, Or.inl (tb_in (List.mem_append_right _ (List.mem_of_getElem? (i := 488) (by decide +kernel))) rfl), wt_M_size, by unfold xm_np; decide +kernel⟩
theorem c_M_82 : xm_cv "SnapshotVaultModel" 82 m_M_matched 3 4 := ⟨ok_M_matched, Or.inl (tb_in (List.mem_append_right _ (List.mem_of_getElem? (i := 491) (by decide +kernel))) rfl), wm_M_matched, we_M_matched, by unfold xm_np; decide +kernel, _, _, _, _, cl_M, rfl⟩
theorem c_M_74 : xm_cv "SnapshotVaultModel" 74 m_M_subsequences 2 4 := ⟨ok_M_subsequences, Or.inl (tb_in (List.mem_append_right _ (List.mem_of_getElem? (i := 495) (by decide +kernel))) rfl), wm_M_subsequences, we_M_subsequences, by unfold xm_np; decide +kernel, _, _, _, _, cl_M, rfl⟩
theorem c_M_70 : xm_cs "SnapshotVaultModel" 70 m_M_line 2 := ⟨ok_M_line, Or.inl (tb_in (List.mem_append_right _ (List.mem_of_getElem? (i := 499) (by decide +kernel))) rfl), wt_M_line, by unfold xm_np; decide +kernel⟩
theorem c_M_86 : xm_cs "SnapshotVaultModel" 86 m_M_equal 6 := ⟨ok_M_equal, Or.inl (tb_in (List.mem_append_right _ (List.mem_of_getElem? (i := 502) (by decide +kernel))) rfl), wt_M_equal, by unfold xm_np; decide +kernel⟩
theorem c_M_90 : xm_cv "SnapshotVaultModel" 90 m_M_take 3 4 := ⟨ok_M_take, Or.inl (tb_in (List.mem_append_right _ (List.mem_of_getElem? (i := 505) (by decide +kernel))) rfl), wm_M_take, we_M_take, by unfold xm_np; decide +kernel, _, _, _, _, cl_M, rfl⟩
theorem c_M_148 : xm_cv "SnapshotVaultModel" 148 m_M_putJoined 1 4 := ⟨ok_M_putJoined, Or.inl (tb_in (List.mem_append_right _ (List.mem_of_getElem? (i := 509) (by decide +kernel))) rfl), wm_M_putJoined, we_M_putJoined, by unfold xm_np; decide +kernel, _, _, _, _, cl_M, rfl⟩
theorem c_L_54 : xm_cv "SnapshotVaultLaw" 54 m_M_pick 2 4 := ⟨ok_M_pick, Or.inl (tb_in (List.mem_append_right _ (List.mem_of_getElem? (i := 513) (by decide +kernel))) rfl), wm_M_pick, we_M_pick, by unfold xm_np; decide +kernel, _, _, _, _, cl_M, rfl⟩
theorem c_M_152 : xm_cv "SnapshotVaultModel" 152 m_M_again 1 4 := ⟨ok_M_again, Or.inl (tb_in (List.mem_append_right _ (List.mem_of_getElem? (i := 517) (by decide +kernel))) rfl), wm_M_again, we_M_again, by unfold xm_np; decide +kernel, _, _, _, _, cl_M, rfl⟩
theorem c_M_155 : xm_cv "SnapshotVaultModel" 155 m_M_changedNothing 0 4 := ⟨ok_M_changedNothing, Or.inl (tb_in (List.mem_append_right _ (List.mem_of_getElem? (i := 521) (by decide +kernel))) rfl), wm_M_changedNothing, we_M_changedNothing, by unfold xm_np; decide +kernel, _, _, _, _, cl_M, rfl⟩
theorem c_L_58 : xm_cv "SnapshotVaultLaw" 58 m_M_rebase 2 4 := ⟨ok_M_rebase, Or.inl (tb_in (List.mem_append_right _ (List.mem_of_getElem? (i := 525) (by decide +kernel))) rfl), wm_M_rebase, we_M_rebase, by unfold xm_np; decide +kernel, _, _, _, _, cl_M, rfl⟩
theorem c_M_160 : xm_cv "SnapshotVaultModel" 160 m_M_replay 1 4 := ⟨ok_M_replay, Or.inl (tb_in (List.mem_append_right _ (List.mem_of_getElem? (i := 530) (by decide +kernel))) rfl), wm_M_replay, we_M_replay, by unfold xm_np; decide +kernel, _, _, _, _, cl_M, rfl⟩
theorem c_L_62 : xm_cv "SnapshotVaultLaw" 62 m_M_collect 1 4 := ⟨ok_M_collect, Or.inl (tb_in (List.mem_append_right _ (List.mem_of_getElem? (i := 534) (by decide +kernel))) rfl), wm_M_collect, we_M_collect, by unfold xm_np; decide +kernel, _, _, _, _, cl_M, rfl⟩
theorem c_M_163 : xm_cs "SnapshotVaultModel" 163 m_M_many 1 := ⟨ok_M_many, Or.inl (tb_in (List.mem_append_right _ (List.mem_of_getElem? (i := 538) (by decide +kernel))) rfl), wt_M_many, by unfold xm_np; decide +kernel⟩
theorem c_L_66 : xm_cv "SnapshotVaultLaw" 66 m_M_send 2 4 := ⟨ok_M_send, Or.inl (tb_in (List.mem_append_right _ (List.mem_of_getElem? (i := 541) (by decide +kernel))) rfl), wm_M_send, we_M_send, by unfold xm_np; decide +kernel, _, _, _, _, cl_M, rfl⟩
theorem c_L_70 : xm_cv "SnapshotVaultLaw" 70 m_M_current 1 4 := ⟨ok_M_current, Or.inl (tb_in (List.mem_append_right _ (List.mem_of_getElem? (i := 545) (by decide +kernel))) rfl), wm_M_current, we_M_current, by unfold xm_np; decide +kernel, _, _, _, _, cl_M, rfl⟩
theorem c_L_74 : xm_cv "SnapshotVaultLaw" 74 m_M_tip 2 4 := ⟨ok_M_tip, Or.inl (tb_in (List.mem_append_right _ (List.mem_of_getElem? (i := 549) (by decide +kernel))) rfl), wm_M_tip, we_M_tip, by unfold xm_np; decide +kernel, _, _, _, _, cl_M, rfl⟩
theorem c_L_78 : xm_cv "SnapshotVaultLaw" 78 m_M_holds 2 4 := ⟨ok_M_holds, Or.inl (tb_in (List.mem_append_right _ (List.mem_of_getElem? (i := 553) (by decide +kernel))) rfl), wm_M_holds, we_M_holds, by unfold xm_np; decide +kernel, _, _, _, _, cl_M, rfl⟩
theorem c_L_83 : xm_cv "SnapshotVaultLaw" 83 m_M_commits 0 4 := ⟨ok_M_commits, Or.inl (tb_in (List.mem_append_right _ (List.mem_of_getElem? (i := 557) (by decide +kernel))) rfl), wm_M_commits, we_M_commits, by unfold xm_np; decide +kernel, _, _, _, _, cl_M, rfl⟩
theorem c_L_87 : xm_cv "SnapshotVaultLaw" 87 m_M_parent 2 4 := ⟨ok_M_parent, Or.inl (tb_in (List.mem_append_right _ (List.mem_of_getElem? (i := 561) (by decide +kernel))) rfl), wm_M_parent, we_M_parent, by unfold xm_np; decide +kernel, _, _, _, _, cl_M, rfl⟩
theorem c_L_92 : xm_cv "SnapshotVaultLaw" 92 m_M_text 2 4 := ⟨ok_M_text, Or.inl (tb_in (List.mem_append_right _ (List.mem_of_getElem? (i := 565) (by decide +kernel))) rfl), wm_M_text, we_M_text, by unfold xm_np; decide +kernel, _, _, _, _, cl_M, rfl⟩
theorem c_L_96 : xm_cv "SnapshotVaultLaw" 96 m_M_working 2 4 := ⟨ok_M_working, Or.inl (tb_in (List.mem_append_right _ (List.mem_of_getElem? (i := 569) (by decide +kernel))) rfl), wm_M_working, we_M_working, by unfold xm_np; decide +kernel, _, _, _, _, cl_M, rfl⟩
theorem c_L_100 : xm_cv "SnapshotVaultLaw" 100 m_M_staged 2 4 := ⟨ok_M_staged, Or.inl (tb_in (List.mem_append_right _ (List.mem_of_getElem? (i := 573) (by decide +kernel))) rfl), wm_M_staged, we_M_staged, by unfold xm_np; decide +kernel, _, _, _, _, cl_M, rfl⟩
theorem c_L_104 : xm_cv "SnapshotVaultLaw" 104 m_M_base 2 4 := ⟨ok_M_base, Or.inl (tb_in (List.mem_append_right _ (List.mem_of_getElem? (i := 577) (by decide +kernel))) rfl), wm_M_base, we_M_base, by unfold xm_np; decide +kernel, _, _, _, _, cl_M, rfl⟩
theorem wc_L_7 : Cond.classLink "SnapshotVaultLaw" 7 "SnapshotVault" ∈ tb_all := tb_in (List.mem_append_right _ (List.mem_of_getElem? (i := 9) (by decide +kernel))) rfl
theorem n_L_7 : xm_nf "SnapshotVaultLaw" 7 3 3 [.null, .null, .null] := ⟨_, _, _, cl_V, wc_L_7, tb_in (List.mem_append_right _ (List.mem_of_getElem? (i := 10) (by decide +kernel))) rfl, wi_V, by decide +kernel, rfl⟩
theorem wc_V_7 : Cond.classLink "SnapshotVault" 7 "SnapshotVault$History" ∈ tb_all := tb_in (List.mem_append_right _ (List.mem_of_getElem? (i := 17) (by decide +kernel))) rfl
theorem n_V_7 : xm_nf "SnapshotVault" 7 0 5 [.null, .null, .null, .null, .int 0] := ⟨_, _, _, cl_H, wc_V_7, tb_in (List.mem_append_right _ (List.mem_of_getElem? (i := 18) (by decide +kernel))) rfl, wi_H, by decide +kernel, rfl⟩
theorem wc_V_16 : Cond.classLink "SnapshotVault" 16 "SnapshotVault$Repository" ∈ tb_all := tb_in (List.mem_append_right _ (List.mem_of_getElem? (i := 42) (by decide +kernel))) rfl
theorem n_V_16 : xm_nf "SnapshotVault" 16 1 5 [.null, .null, .null, .long 0, .int 0] := ⟨_, _, _, cl_R, wc_V_16, tb_in (List.mem_append_right _ (List.mem_of_getElem? (i := 44) (by decide +kernel))) rfl, wi_R, by decide +kernel, rfl⟩
theorem wc_V_23 : Cond.classLink "SnapshotVault" 23 "SnapshotVault$Uniter" ∈ tb_all := tb_in (List.mem_append_right _ (List.mem_of_getElem? (i := 71) (by decide +kernel))) rfl
theorem n_V_23 : xm_nf "SnapshotVault" 23 2 4 [.null, .null, .null, .null] := ⟨_, _, _, cl_U, wc_V_23, tb_in (List.mem_append_right _ (List.mem_of_getElem? (i := 72) (by decide +kernel))) rfl, wi_U, by decide +kernel, rfl⟩
theorem wc_U_22 : Cond.classLink "SnapshotVault$Uniter" 22 "[[I" ∈ tb_all := tb_in (List.mem_append_right _ (List.mem_of_getElem? (i := 77) (by decide +kernel))) rfl
theorem wc_L_10 : Cond.classLink "SnapshotVaultLaw" 10 "SnapshotVaultModel" ∈ tb_all := tb_in (List.mem_append_right _ (List.mem_of_getElem? (i := 338) (by decide +kernel))) rfl
theorem n_L_10 : xm_nf "SnapshotVaultLaw" 10 4 19 [.int 0, .null, .null, .null, .null, .null, .null, .null, .null, .null, .null, .null, .null, .null, .null, .null, .int 0, .null, .null] := ⟨_, _, _, cl_M, wc_L_10, tb_in (List.mem_append_right _ (List.mem_of_getElem? (i := 339) (by decide +kernel))) rfl, wi_M, by decide +kernel, rfl⟩
theorem wa_int : Cond.arrayClass .int ∈ tb_all := tb_in (List.mem_append_right _ (List.mem_of_getElem? (i := 41) (by decide +kernel))) rfl
theorem wa_long : Cond.arrayClass .long ∈ tb_all := tb_in (List.mem_append_right _ (List.mem_of_getElem? (i := 40) (by decide +kernel))) rfl
end
section
/-! Rows on Int64 by their numbers (begun from the kit's BITS.to-paste). -/
/-! ===== lN n to 2^64: shifts, and, or, masks, one bit ===== -/
theorem wb_tb (n : Nat) : (lN n).toBitVec = BitVec.ofNat 64 n := rfl
theorem wb_inj {a b : Int64} (h : a.toBitVec = b.toBitVec) : a = b := Int64.toBitVec_inj.mp h
theorem wb_tn {n : Nat} (h : n < 2 ^ 64) : (lN n).toBitVec.toNat = n := by rw [wb_tb, BitVec.toNat_ofNat, Nat.mod_eq_of_lt h]
theorem wb_of (x : Int64) : ∃ n, n < 2 ^ 64 ∧ x = lN n := ⟨x.toBitVec.toNat, x.toBitVec.isLt, wb_inj (by rw [wb_tb]; simp)⟩
theorem wb_of32 (x : Int32) : ∃ n, n < 2 ^ 32 ∧ x = nI n := ⟨x.toBitVec.toNat, x.toBitVec.isLt, Int32.toBitVec_inj.mp (by show _ = BitVec.ofNat 32 _; simp)⟩
theorem wb_c : ∀ k, k < 64 → ((nI k).toInt64 &&& 63) = lN k := by decide +kernel
theorem wb_cu : ∀ k, k < 64 → ((nI k).toInt64.toUInt64 &&& Int64.toUInt64 63) = UInt64.ofNat k := by decide +kernel
theorem wb_sm : ∀ k, k < 64 → (BitVec.ofNat 64 k).smod 64 = BitVec.ofNat 64 k := by decide +kernel
theorem wb_pw {a b : Nat} (h : a ≤ b) : 2 ^ b = 2 ^ a * 2 ^ (b - a) := by rw [← Nat.pow_add]; congr 1; omega
theorem wb_lt2 {a b : Nat} (h : a < b) : 2 ^ a < 2 ^ b := Nat.pow_lt_pow_right (by decide) h
theorem wb_mod (n : Nat) : lN n = lN (n % 2 ^ 64) := wb_inj (by rw [wb_tb, wb_tb]; apply BitVec.eq_of_toNat_eq; rw [BitVec.toNat_ofNat, BitVec.toNat_ofNat, Nat.mod_mod])
theorem wb_shr {n k : Nat} (hn : n < 2 ^ 64) (hk : k < 64) : ((lN n).toUInt64 >>> ((nI k).toInt64.toUInt64 &&& Int64.toUInt64 63)).toInt64 = lN (n / 2 ^ k) := by
  rw [wb_cu k hk]
  apply wb_inj
  apply BitVec.eq_of_toNat_eq
  show ((lN n).toUInt64 >>> UInt64.ofNat k).toNat = (BitVec.ofNat 64 _).toNat
  have h1 : (UInt64.ofNat k).toNat = k := by
    show (BitVec.ofNat 64 k).toNat = k
    rw [BitVec.toNat_ofNat, Nat.mod_eq_of_lt (by omega)]
  have h2 : (lN n).toUInt64.toNat = n := wb_tn hn
  rw [UInt64.toNat_shiftRight, h1, h2, Nat.mod_eq_of_lt hk, Nat.shiftRight_eq_div_pow, BitVec.toNat_ofNat, Nat.mod_eq_of_lt (Nat.lt_of_le_of_lt (Nat.div_le_self _ _) hn)]
theorem wb_shl (n : Nat) {k : Nat} (hk : k < 64) : lN n <<< ((nI k).toInt64 &&& 63) = lN (n * 2 ^ k) := by
  rw [wb_c k hk]
  apply wb_inj
  rw [Int64.toBitVec_shiftLeft, wb_tb, wb_tb, wb_tb, wb_sm k hk]
  apply BitVec.eq_of_toNat_eq
  rw [BitVec.shiftLeft_eq', BitVec.toNat_shiftLeft, BitVec.toNat_ofNat, BitVec.toNat_ofNat, BitVec.toNat_ofNat, Nat.mod_eq_of_lt (show k < 2 ^ 64 by omega), Nat.shiftLeft_eq, Nat.mul_mod, Nat.mod_mod, ← Nat.mul_mod]
theorem wb_and {a b : Nat} (ha : a < 2 ^ 64) (hb : b < 2 ^ 64) : lN a &&& lN b = lN (a &&& b) := by
  apply wb_inj
  rw [Int64.toBitVec_and, wb_tb, wb_tb, wb_tb]
  apply BitVec.eq_of_toNat_eq
  rw [BitVec.toNat_and, BitVec.toNat_ofNat, BitVec.toNat_ofNat, BitVec.toNat_ofNat, Nat.mod_eq_of_lt ha, Nat.mod_eq_of_lt hb, Nat.mod_eq_of_lt (Nat.and_lt_two_pow _ hb)]
theorem wb_or {a b : Nat} (ha : a < 2 ^ 64) (hb : b < 2 ^ 64) : lN a ||| lN b = lN (a ||| b) := by
  apply wb_inj
  rw [Int64.toBitVec_or, wb_tb, wb_tb, wb_tb]
  apply BitVec.eq_of_toNat_eq
  rw [BitVec.toNat_or, BitVec.toNat_ofNat, BitVec.toNat_ofNat, BitVec.toNat_ofNat, Nat.mod_eq_of_lt ha, Nat.mod_eq_of_lt hb, Nat.mod_eq_of_lt (Nat.or_lt_two_pow ha hb)]
theorem wb_mask {n k : Nat} (hn : n < 2 ^ 64) (hk : k < 64) : lN n &&& lN (2 ^ k - 1) = lN (n % 2 ^ k) := by
  rw [wb_and hn (by have := wb_lt2 hk; omega), Nat.and_two_pow_sub_one_eq_mod]
theorem wb_a1 {n : Nat} (hn : n < 2 ^ 64) : lN n &&& 1 = lN (n % 2) := wb_mask (k := 1) hn (by decide)
theorem wb_bit {n k : Nat} (hn : n < 2 ^ 64) (hk : k < 64) : ((lN n).toUInt64 >>> ((nI k).toInt64.toUInt64 &&& Int64.toUInt64 63)).toInt64 &&& 1 = lN (n / 2 ^ k % 2) := by
  rw [wb_shr hn hk, wb_a1 (Nat.lt_of_le_of_lt (Nat.div_le_self _ _) hn)]
theorem wb_xor {q k : Nat} (hk : k < 63) (h : 2 ^ k ≤ q) (h2 : q < 2 ^ (k + 1)) : lN q ^^^ lN (2 ^ k) = lN (q - 2 ^ k) := by
  obtain ⟨r, rfl⟩ : ∃ r, q = 2 ^ k + r := ⟨q - 2 ^ k, by omega⟩
  have hr : r < 2 ^ k := by rw [Nat.pow_succ] at h2; omega
  have hx : (2 ^ k + r) ^^^ 2 ^ k = r := by
    apply Nat.eq_of_testBit_eq
    intro i
    rw [Nat.testBit_xor, Nat.testBit_two_pow]
    rcases Nat.lt_trichotomy i k with h | h | h
    · rw [Nat.testBit_two_pow_add_gt h]
      simp [show ¬ k = i by omega]
    · subst h
      rw [Nat.testBit_two_pow_add_eq]
      simp
    · have a1 : 2 ^ (k + 1) ≤ 2 ^ i := Nat.pow_le_pow_right (by decide) h
      rw [Nat.testBit_lt_two_pow (show 2 ^ k + r < 2 ^ i by omega), Nat.testBit_lt_two_pow (show r < 2 ^ i by omega)]
      simp [show ¬ k = i by omega]
  have b1 := wb_lt2 (show k + 1 < 64 by omega)
  have b2 := wb_lt2 (show k < 64 by omega)
  apply wb_inj
  rw [Int64.toBitVec_xor, wb_tb, wb_tb, wb_tb]
  apply BitVec.eq_of_toNat_eq
  rw [BitVec.toNat_xor, BitVec.toNat_ofNat, BitVec.toNat_ofNat, BitVec.toNat_ofNat, Nat.mod_eq_of_lt (by omega : 2 ^ k + r < 2 ^ 64), Nat.mod_eq_of_lt b2, hx, Nat.add_sub_cancel_left, Nat.mod_eq_of_lt (by omega)]
/-! ===== lN: masks, 'or' of parts that don't overlap is a sum ===== -/
theorem u_tn {n : Nat} (h : n < 2 ^ 64) : (UInt64.ofNat n).toNat = n := Nat.mod_eq_of_lt h
theorem g_and {a b c : Nat} (ha : a < 2 ^ 64) (hb : b < 2 ^ 64) (hc : a &&& b = c) : lN a &&& lN b = lN c := by
  subst hc
  have h : UInt64.ofNat a &&& UInt64.ofNat b = UInt64.ofNat (a &&& b) := UInt64.toNat_inj.mp (by rw [UInt64.toNat_and, u_tn ha, u_tn hb, u_tn (Nat.and_lt_two_pow a hb)])
  have h2 := congrArg UInt64.toInt64 h
  exact h2
theorem g_and1 {a : Nat} (ha : a < 2 ^ 64) : lN a &&& 1 = lN (a % 2) := g_and (b := 1) ha (by decide) (Nat.and_two_pow_sub_one_eq_mod a 1)
theorem g_mask {a s p : Nat} (hp : 2 ^ s = p) (hs : s < 64) (ha : a < 2 ^ 64) : lN a &&& lN (p - 1) = lN (a % p) := by
  subst hp
  have := Nat.pow_lt_pow_right (show 1 < 2 by decide) hs
  exact g_and ha (by omega) (Nat.and_two_pow_sub_one_eq_mod a s)
theorem g_or {k p a b : Nat} (hp : 2 ^ k = p) (ha : a < p) (h : b * p + a < 2 ^ 64) : lN (b * p) ||| lN a = lN (b * p + a) := by
  subst hp
  have h1 : b * 2 ^ k ||| a = b * 2 ^ k + a := by rw [← Nat.shiftLeft_eq, Nat.shiftLeft_add_eq_or_of_lt ha]
  have h3 : UInt64.ofNat (b * 2 ^ k) ||| UInt64.ofNat a = UInt64.ofNat (b * 2 ^ k + a) := UInt64.toNat_inj.mp (by rw [UInt64.toNat_or, u_tn (by omega), u_tn (by omega), u_tn h, h1])
  have h2 := congrArg UInt64.toInt64 h3
  exact h2
theorem g_or' {k p a b : Nat} (hp : 2 ^ k = p) (ha : a < p) (h : a + b * p < 2 ^ 64) : lN a ||| lN (b * p) = lN (a + b * p) := by
  rw [Int64.or_comm, g_or hp ha (by omega), Nat.add_comm]
theorem g_ushr {a k p : Nat} {y : UInt64} (hy : y = UInt64.ofNat k) (hk : k < 64) (hp : 2 ^ k = p) (ha : a < 2 ^ 64) : ((lN a).toUInt64 >>> y).toInt64 = lN (a / p) := by
  subst hy hp
  have h : UInt64.ofNat a >>> UInt64.ofNat k = UInt64.ofNat (a / 2 ^ k) := UInt64.toNat_inj.mp (by rw [UInt64.toNat_shiftRight, u_tn ha, u_tn (by omega), u_tn (Nat.lt_of_le_of_lt (Nat.div_le_self _ _) ha), Nat.mod_eq_of_lt hk, Nat.shiftRight_eq_div_pow])
  have h2 := congrArg UInt64.toInt64 h
  exact h2
theorem g_shl {a k p : Nat} {y : Int64} (hy : y.toBitVec.smod 64 = BitVec.ofNat 64 k) (hk : k < 64) (hp : 2 ^ k = p) (ha : a < 2 ^ 64) : lN a <<< y = lN (a * p) := by
  subst hp
  apply Int64.toBitVec_inj.mp
  rw [Int64.toBitVec_shiftLeft, hy]
  apply BitVec.eq_of_toNat_eq
  have hb : (lN a).toBitVec.toNat = a := Nat.mod_eq_of_lt ha
  have hk' : (BitVec.ofNat 64 k).toNat = k := Nat.mod_eq_of_lt (by omega)
  have h : ((lN a).toBitVec <<< BitVec.ofNat 64 k).toNat = (a * 2 ^ k) % 2 ^ 64 := by simp only [BitVec.shiftLeft_eq', BitVec.toNat_shiftLeft, hb, hk', Nat.shiftLeft_eq]
  exact h
/-! ===== lN to 2^62 under >> and >>> ===== -/
theorem pf_lI {a : Nat} (h : a < 2 ^ 63) : (lN a).toInt = (a : Int) := lg_ofNat_toInt h
theorem pf_shr {a d : Nat} {D : Int64} (hD : (D.toBitVec.smod 64).toNat = d) (h : a < 2 ^ 62) : lN a >>> D = lN (a / 2 ^ d) := by
  have hd : a / 2 ^ d ≤ a := Nat.div_le_self _ _
  apply Int64.toInt_inj.mp
  have e : (lN a >>> D).toInt = (lN a).toInt >>> d := by
    rw [← hD]
    exact BitVec.toInt_sshiftRight ..
  rw [e, Int.shiftRight_eq_div_pow, pf_lI (by omega), pf_lI (by omega)]
  rfl
theorem pf_ushr {a d : Nat} {D : UInt64} (hD : D.toNat % 64 = d) (h : a < 2 ^ 62) : ((lN a).toUInt64 >>> D).toInt64 = lN (a / 2 ^ d) := by
  have hd : a / 2 ^ d ≤ a := Nat.div_le_self _ _
  have e : (lN a).toUInt64 >>> D = UInt64.ofNat (a / 2 ^ d) := UInt64.toNat_inj.mp (by
    rw [UInt64.toNat_shiftRight, hD, Nat.shiftRight_eq_div_pow, UInt64.toNat_ofNat']
    show (UInt64.ofNat a).toNat / 2 ^ d = _
    rw [UInt64.toNat_ofNat', Nat.mod_eq_of_lt (by omega), Nat.mod_eq_of_lt (by omega)])
  rw [e]
  rfl
theorem pf_andw (x : Int64) : ∃ m, m < 2 ^ 32 ∧ x &&& 4294967295 = lN m := ⟨x.toBitVec.toNat % 2 ^ 32, Nat.mod_lt _ (by decide), Int64.toBitVec_inj.mp (BitVec.eq_of_toNat_eq (by
  show (x.toBitVec &&& 4294967295#64).toNat = (BitVec.ofNat 64 (x.toBitVec.toNat % 2 ^ 32)).toNat
  rw [BitVec.toNat_and, show (4294967295#64).toNat = 2 ^ 32 - 1 from by decide, Nat.and_two_pow_sub_one_eq_mod, BitVec.toNat_ofNat]
  omega))⟩
end
section
/-! How many bits a number has, and that the bytes' trick counts them (Long.bitCount). -/
def xp_cnt (x : Nat) : Nat → Nat
  | 0 => 0
  | k + 1 => xp_cnt x k + x / 2 ^ k % 2
theorem xp_and_split (k a b c d : Nat) (hb : b < 2 ^ k) (hd : d < 2 ^ k) : (2 ^ k * a + b) &&& (2 ^ k * c + d) = 2 ^ k * (a &&& c) + (b &&& d) := by
  apply Nat.eq_of_testBit_eq
  intro i
  have hbd : b &&& d < 2 ^ k := Nat.and_lt_two_pow _ hd
  rw [Nat.testBit_and, Nat.testBit_two_pow_mul_add _ hb, Nat.testBit_two_pow_mul_add _ hd, Nat.testBit_two_pow_mul_add _ hbd]
  split
  · rw [Nat.testBit_and]
  · rw [Nat.testBit_and]
def xp_m (c : Nat) : Nat → Nat
  | 0 => 0
  | n + 1 => 256 * xp_m c n + c
def xp_v1 (n x : Nat) : Nat := x - (x / 2 &&& xp_m 85 n)
def xp_v2 (n x : Nat) : Nat := (xp_v1 n x &&& xp_m 51 n) + (xp_v1 n x / 4 &&& xp_m 51 n)
def xp_v3 (n x : Nat) : Nat := (xp_v2 n x + xp_v2 n x / 16) &&& xp_m 15 n
def xp_w1 (b : Nat) : Nat := b - (b / 2 &&& 85)
def xp_w2 (b : Nat) : Nat := (xp_w1 b &&& 51) + (xp_w1 b / 4 &&& 51)
def xp_g : Nat → Nat → Nat
  | 0, _ => 0
  | n + 1, x => 256 * xp_g n (x / 256) + xp_cnt (x % 256) 8
theorem xp_d1 : ∀ b, b < 256 → ∀ c, c < 2 → (128 * c + b / 2) &&& 85 = b / 2 &&& 85 := by decide +kernel
theorem xp_d2 : ∀ q, q < 256 → ∀ c, c < 4 → (64 * c + q / 4) &&& 51 = q / 4 &&& 51 := by decide +kernel
theorem xp_d3 : ∀ b, b < 256 → ∀ c, c < 5 → (16 * c + xp_w2 b + xp_w2 b / 16) &&& 15 = xp_cnt b 8 ∧ 16 * c + xp_w2 b + xp_w2 b / 16 < 256 ∧ xp_w2 b % 16 < 5 ∧ xp_w2 b < 256 := by decide +kernel
theorem xp_s1 (n x : Nat) : xp_v1 (n + 1) x = 256 * xp_v1 n (x / 256) + xp_w1 (x % 256) := by
  unfold xp_v1 xp_w1
  have hb : x % 256 < 256 := Nat.mod_lt _ (by decide)
  have e1 : x / 2 = 2 ^ 8 * (x / 256 / 2) + (128 * (x / 256 % 2) + x % 256 / 2) := by omega
  have e2 : xp_m 85 (n + 1) = 2 ^ 8 * xp_m 85 n + 85 := rfl
  have e3 := xp_d1 (x % 256) hb (x / 256 % 2) (Nat.mod_lt _ (by decide))
  rw [e1, e2, xp_and_split 8 _ _ _ _ (by omega) (by decide), e3]
  have h1 : x / 256 / 2 &&& xp_m 85 n ≤ x / 256 / 2 := Nat.and_le_left
  have h2 : x % 256 / 2 &&& 85 ≤ x % 256 / 2 := Nat.and_le_left
  generalize x / 256 / 2 &&& xp_m 85 n = A at h1 ⊢
  generalize x % 256 / 2 &&& 85 = B at h2 ⊢
  omega
theorem xp_w1_lt {b : Nat} (h : b < 256) : xp_w1 b < 256 := by unfold xp_w1; omega
theorem xp_s2 (n x : Nat) : xp_v2 (n + 1) x = 256 * xp_v2 n (x / 256) + xp_w2 (x % 256) := by
  unfold xp_v2 xp_w2
  rw [xp_s1]
  have hb : x % 256 < 256 := Nat.mod_lt _ (by decide)
  have hq := xp_w1_lt hb
  generalize xp_v1 n (x / 256) = p at *
  generalize xp_w1 (x % 256) = q at *
  have e2 : xp_m 51 (n + 1) = 2 ^ 8 * xp_m 51 n + 51 := rfl
  have e1 : (256 * p + q) / 4 = 2 ^ 8 * (p / 4) + (64 * (p % 4) + q / 4) := by omega
  have e3 := xp_d2 q hq (p % 4) (Nat.mod_lt _ (by decide))
  rw [e1, e2, show 256 * p + q = 2 ^ 8 * p + q from rfl, xp_and_split 8 _ _ _ _ hq (by decide), xp_and_split 8 _ _ _ _ (by omega) (by decide), e3]
  omega
theorem xp_s2m (n x : Nat) : xp_v2 n x % 16 < 5 := by
  cases n with
  | zero =>
    unfold xp_v2 xp_m
    simp
  | succ n =>
    rw [xp_s2]
    have h := (xp_d3 (x % 256) (Nat.mod_lt _ (by decide)) 0 (by decide)).2.2.1
    omega
theorem xp_s3 : ∀ (n x : Nat), xp_v3 n x = xp_g n x
  | 0, x => by
    unfold xp_v3 xp_m xp_g
    simp
  | n + 1, x => by
    have ih := xp_s3 n (x / 256)
    unfold xp_v3 at ih ⊢
    rw [xp_s2]
    have hc := xp_s2m n (x / 256)
    have hb : x % 256 < 256 := Nat.mod_lt _ (by decide)
    obtain ⟨d1, d2, d3, d4⟩ := xp_d3 (x % 256) hb (xp_v2 n (x / 256) % 16) hc
    have e2 : xp_m 15 (n + 1) = 2 ^ 8 * xp_m 15 n + 15 := rfl
    have e1 : 256 * xp_v2 n (x / 256) + xp_w2 (x % 256) + (256 * xp_v2 n (x / 256) + xp_w2 (x % 256)) / 16 = 2 ^ 8 * (xp_v2 n (x / 256) + xp_v2 n (x / 256) / 16) + (16 * (xp_v2 n (x / 256) % 16) + xp_w2 (x % 256) + xp_w2 (x % 256) / 16) := by omega
    rw [e1, e2, xp_and_split 8 _ _ _ _ d2 (by decide), ih, d1]
    rfl
theorem xp_cnt_le (x : Nat) : ∀ k, xp_cnt x k ≤ k
  | 0 => Nat.le_refl _
  | k + 1 => by
    have := xp_cnt_le x k
    unfold xp_cnt
    have := Nat.mod_lt (x / 2 ^ k) (show 0 < 2 by decide)
    omega
theorem xp_cnt_mod (x m : Nat) : ∀ k, k ≤ m → xp_cnt (x % 2 ^ m) k = xp_cnt x k
  | 0, _ => rfl
  | k + 1, h => by
    unfold xp_cnt
    rw [xp_cnt_mod x m k (by omega)]
    have e : x % 2 ^ m / 2 ^ k % 2 = x / 2 ^ k % 2 := by
      have h1 := Nat.testBit_mod_two_pow x m k
      rw [Nat.testBit_eq_decide_div_mod_eq, Nat.testBit_eq_decide_div_mod_eq] at h1
      have h2 : (decide (k < m)) = true := by simp; omega
      rw [h2, Bool.true_and, decide_eq_decide] at h1
      have := Nat.mod_lt (x % 2 ^ m / 2 ^ k) (show 0 < 2 by decide)
      have := Nat.mod_lt (x / 2 ^ k) (show 0 < 2 by decide)
      omega
    rw [e]
theorem xp_cnt_add (x a : Nat) : ∀ b, xp_cnt x (a + b) = xp_cnt x a + xp_cnt (x / 2 ^ a) b
  | 0 => by simp [xp_cnt]
  | b + 1 => by
    rw [← Nat.add_assoc]
    show xp_cnt x (a + b) + x / 2 ^ (a + b) % 2 = xp_cnt x a + (xp_cnt (x / 2 ^ a) b + x / 2 ^ a / 2 ^ b % 2)
    rw [xp_cnt_add x a b, Nat.div_div_eq_div_mul, ← Nat.pow_add, Nat.add_assoc]
/-- the sum of the bytes' counts -/
def xp_sum : Nat → Nat → Nat
  | 0, _ => 0
  | n + 1, x => xp_cnt (x % 256) 8 + xp_sum n (x / 256)
theorem xp_sum_cnt : ∀ n x, xp_sum n x = xp_cnt x (8 * n)
  | 0, _ => rfl
  | n + 1, x => by
    unfold xp_sum
    rw [xp_sum_cnt n, show 8 * (n + 1) = 8 + 8 * n by omega, xp_cnt_add, show (256 : Nat) = 2 ^ 8 from rfl, xp_cnt_mod x 8 8 (Nat.le_refl _)]
theorem xp_f1 {a d v : Nat} (h : v = 256 * a + d) (hd : d ≤ 8) : v / 256 = a := by omega
theorem xp_f2 {v a x y : Nat} (h : v = 65536 * a + (256 * x + y)) (hx : x ≤ 16) (hy : y ≤ 16) : v / 65536 = a := by omega
theorem xp_f3 {v a p q r t : Nat} (h : v = 4294967296 * a + (16777216 * p + 65536 * q + 256 * r + t)) (hp : p ≤ 32) (hq : q ≤ 32) (hr : r ≤ 32) (ht : t ≤ 32) : v / 4294967296 = a ∧ v % 128 = t := by
  constructor
  · omega
  · omega
theorem xp_h1 {v a1 a2 a3 d0 d1 d2 : Nat} (h0 : v = 256 * a1 + d0) (h1 : a1 = 256 * a2 + d1) (h2 : a2 = 256 * a3 + d2) : v + a1 = 65536 * (a2 + a3) + (256 * (d1 + d2) + (d0 + d1)) := by omega
theorem xp_h2 {X S U V p q r t r' t' : Nat} (h1 : X = 65536 * S + (256 * p + q)) (h2 : S = 65536 * U + (256 * r + t)) (h3 : U = 65536 * V + (256 * r' + t')) : X + S = 4294967296 * (U + V) + (16777216 * (r + r') + 65536 * (t + t') + 256 * (p + r) + (q + t)) := by omega
theorem xp_h3 {a b d B : Nat} (h : a = 256 * b + d) (hb : b ≤ B) (hd : d ≤ 8) : a ≤ 256 * B + 8 := by omega
theorem xp_h4 {a b c d : Nat} (ha : a ≤ 8) (hb : b ≤ 8) (hc : c ≤ 8) (hd : d ≤ 8) : a + b + (c + d) ≤ 32 := by omega
theorem xp_h5 {a b : Nat} (ha : a ≤ 8) (hb : b ≤ 8) : a + b ≤ 16 := by omega
theorem xp_h6 {a4 a5 a6 d4 d5 d6 d7 : Nat} (h4 : a4 = 256 * a5 + d4) (h5 : a5 = 256 * a6 + d5) (h6 : a6 = 256 * d7 + d6) (c4 : d4 ≤ 8) (c5 : d5 ≤ 8) (c6 : d6 ≤ 8) (c7 : d7 ≤ 8) : (a4 + a5 + (a6 + d7)) % 128 = d4 + d5 + (d6 + d7) := by
  have h : a4 + a5 + (a6 + d7) = 128 * (2 * (a5 + a6 + d7)) + (d4 + d5 + (d6 + d7)) := by omega
  rw [h, Nat.mul_add_mod, Nat.mod_eq_of_lt (Nat.lt_of_le_of_lt (xp_h4 c4 c5 c6 c7) (by decide))]
theorem xp_h7 {d0 d1 d2 d3 d4 d5 d6 d7 : Nat} (h1 : d0 + d1 + (d2 + d3) ≤ 32) (h2 : d4 + d5 + (d6 + d7) ≤ 32) : (d0 + d1 + (d2 + d3) + (d4 + d5 + (d6 + d7))) % 128 = d0 + (d1 + (d2 + (d3 + (d4 + (d5 + (d6 + (d7 + 0))))))) := by
  rw [Nat.mod_eq_of_lt (by omega)]
  omega
theorem xp_f4 {v a1 a2 a3 a4 a5 a6 d0 d1 d2 d3 d4 d5 d6 d7 : Nat} (h0 : v = 256 * a1 + d0) (h1 : a1 = 256 * a2 + d1) (h2 : a2 = 256 * a3 + d2) (h3 : a3 = 256 * a4 + d3) (h4 : a4 = 256 * a5 + d4) (h5 : a5 = 256 * a6 + d5) (h6 : a6 = 256 * d7 + d6)
    (c0 : d0 ≤ 8) (c1 : d1 ≤ 8) (c2 : d2 ≤ 8) (c3 : d3 ≤ 8) (c4 : d4 ≤ 8) (c5 : d5 ≤ 8) (c6 : d6 ≤ 8) (c7 : d7 ≤ 8) :
    ∃ v4 v5 v6 : Nat, v4 = v + v / 256 ∧ v5 = v4 + v4 / 65536 ∧ v6 = v5 + v5 / 4294967296 ∧ v4 < 2 ^ 63 ∧ v5 < 2 ^ 63 ∧ v6 < 2 ^ 63 ∧ v < 2 ^ 63 ∧ v6 % 128 = d0 + (d1 + (d2 + (d3 + (d4 + (d5 + (d6 + (d7 + 0))))))) := by
  have b6 := xp_h3 h6 c7 c6
  have b5 := xp_h3 h5 b6 c5
  have b4 := xp_h3 h4 b5 c4
  have b3 := xp_h3 h3 b4 c3
  have b2 := xp_h3 h2 b3 c2
  have b1 := xp_h3 h1 b2 c1
  have b0 := xp_h3 h0 b1 c0
  have e0 := xp_f1 h0 c0
  have e1 := xp_h1 h0 h1 h2
  have e2 := xp_f2 e1 (xp_h5 c1 c2) (xp_h5 c0 c1)
  have g1 := xp_h1 h2 h3 h4
  have g2 := xp_h1 h4 h5 h6
  have e3 := xp_h2 e1 g1 g2
  obtain ⟨e4, e5⟩ := xp_f3 e3 (xp_h4 c3 c4 c5 c6) (xp_h4 c2 c3 c4 c5) (xp_h4 c1 c2 c3 c4) (xp_h4 c0 c1 c2 c3)
  have e6 := xp_h6 h4 h5 h6 c4 c5 c6 c7
  refine ⟨v + a1, v + a1 + (a2 + a3), v + a1 + (a2 + a3) + (a4 + a5 + (a6 + d7)), by rw [e0], by rw [e2], by rw [e4], ?_, ?_, ?_, ?_, ?_⟩
  · exact Nat.lt_of_le_of_lt (Nat.add_le_add b0 b1) (by decide)
  · exact Nat.lt_of_le_of_lt (Nat.add_le_add (Nat.add_le_add b0 b1) (Nat.add_le_add b2 b3)) (by decide)
  · exact Nat.lt_of_le_of_lt (Nat.add_le_add (Nat.add_le_add (Nat.add_le_add b0 b1) (Nat.add_le_add b2 b3)) (Nat.add_le_add (Nat.add_le_add b4 b5) (Nat.add_le_add b6 c7))) (by decide)
  · exact Nat.lt_of_le_of_lt b0 (by decide)
  · rw [Nat.add_mod, e5, e6]
    exact xp_h7 (xp_h4 c0 c1 c2 c3) (xp_h4 c4 c5 c6 c7)
theorem xp_fold (x : Nat) : ∃ v4 v5 v6 : Nat, v4 = xp_g 8 x + xp_g 8 x / 256 ∧ v5 = v4 + v4 / 65536 ∧ v6 = v5 + v5 / 4294967296 ∧ v4 < 2 ^ 63 ∧ v5 < 2 ^ 63 ∧ v6 < 2 ^ 63 ∧ xp_g 8 x < 2 ^ 63 ∧ v6 % 128 = xp_cnt x 64 := by
  rw [← xp_sum_cnt 8 x]
  exact xp_f4 (v := xp_g 8 x) (a1 := xp_g 7 (x / 256)) (a2 := xp_g 6 (x / 256 / 256)) (a3 := xp_g 5 (x / 256 / 256 / 256)) (a4 := xp_g 4 (x / 256 / 256 / 256 / 256)) (a5 := xp_g 3 (x / 256 / 256 / 256 / 256 / 256)) (a6 := xp_g 2 (x / 256 / 256 / 256 / 256 / 256 / 256)) rfl rfl rfl rfl rfl rfl (by rw [show xp_g 2 (x / 256 / 256 / 256 / 256 / 256 / 256) = 256 * xp_g 1 (x / 256 / 256 / 256 / 256 / 256 / 256 / 256) + xp_cnt (x / 256 / 256 / 256 / 256 / 256 / 256 % 256) 8 from rfl]; rw [show xp_g 1 (x / 256 / 256 / 256 / 256 / 256 / 256 / 256) = 256 * 0 + xp_cnt (x / 256 / 256 / 256 / 256 / 256 / 256 / 256 % 256) 8 from rfl, Nat.mul_zero, Nat.zero_add])
    (xp_cnt_le _ 8) (xp_cnt_le _ 8) (xp_cnt_le _ 8) (xp_cnt_le _ 8) (xp_cnt_le _ 8) (xp_cnt_le _ 8) (xp_cnt_le _ 8) (xp_cnt_le _ 8)
end
section
/-! What the calls answer and do, as functions of plain values: the class and the reference are both held against these. -/
/-- how long a subsequence two texts share -/
def sp_lcg (x : Nat) (f : List Nat → Nat) : List Nat → Nat
  | [] => 0
  | y :: ys => if x = y then f ys + 1 else if f (y :: ys) ≥ sp_lcg x f ys then f (y :: ys) else sp_lcg x f ys
def sp_lcs : List Nat → List Nat → Nat
  | [] => fun _ => 0
  | x :: xs => sp_lcg x (sp_lcs xs)
/-- the line that each line of the first text is matched with; j: the number of the second text's first line here -/
def sp_mtg (x : Nat) (xs : List Nat) (f : List Nat → Nat → List (Option Nat)) : List Nat → Nat → List (Option Nat)
  | [], j => none :: f [] j
  | y :: ys, j => if x = y then some j :: f ys (j + 1) else if sp_lcs xs (y :: ys) ≥ sp_lcs (x :: xs) ys then none :: f (y :: ys) j else sp_mtg x xs f ys (j + 1)
def sp_mt : List Nat → List Nat → Nat → List (Option Nat)
  | [] => fun _ _ => []
  | x :: xs => sp_mtg x xs (sp_mt xs)
/-- the side that changed -/
def sp_take (o a b : List Nat) : Option (List Nat) := if a = o then some b else if b = o ∨ b = a then some a else none
def sp_sl (l : List Nat) (i k : Nat) : List Nat := (l.drop i).take (k - i)
/-- the pieces from line k of o on: r lines are left; i, p, q: where the piece begins in o, a, b -/
def sp_go (o a b : List Nat) (ma mb : List (Option Nat)) : Nat → Nat → Nat → Nat → Nat → List Nat → Option (List Nat)
  | 0, k, i, p, q, acc => (sp_take (sp_sl o i k) (sp_sl a p a.length) (sp_sl b q b.length)).map (acc ++ ·)
  | r + 1, k, i, p, q, acc => match ma.getD k none, mb.getD k none with
    | some x, some y => (sp_take (sp_sl o i k) (sp_sl a p x) (sp_sl b q y)).bind fun t => sp_go o a b ma mb r (k + 1) (k + 1) (x + 1) (y + 1) (acc ++ t ++ [o.getD k 0])
    | _, _ => sp_go o a b ma mb r (k + 1) i p q acc
def sp_unite (o a b : List Nat) : Option (List Nat) := (sp_go o a b (sp_mt o a 0) (sp_mt o b 0) o.length 0 0 0 0 []).bind fun t => if t.length ≤ 8 then some t else none
/-- a file's text, or none; none outside: a clash -/
def sp_file (o a b : Option (List Nat)) : Option (Option (List Nat)) := if a = o then some b else if b = o ∨ b = a then some a else match o, a, b with
  | some o, some a, some b => (sp_unite o a b).map some
  | _, _, _ => none
abbrev sp_T : Type := Nat → Option (List Nat)
/-- four files -/
def sp_snap (o a b : sp_T) : Option sp_T := match sp_file (o 0) (a 0) (b 0), sp_file (o 1) (a 1) (b 1), sp_file (o 2) (a 2) (b 2), sp_file (o 3) (a 3) (b 3) with
  | some x0, some x1, some x2, some x3 => some (fun f => if f = 0 then x0 else if f = 1 then x1 else if f = 2 then x2 else x3)
  | _, _, _, _ => none
/-- the commits: how many, their texts (4 c + file), first and second parents, what each reaches (a set of bits) -/
abbrev sp_H : Type := Nat × sp_T × (Nat → Option Nat) × (Nat → Option Nat) × (Nat → Nat)
/-- a repository: tips, current branch, held commits, working and staged texts -/
abbrev sp_R : Type := (Nat → Option Nat) × Nat × Nat × sp_T × sp_T
abbrev sp_S : Type := sp_H × (Nat → sp_R)
abbrev sp_n (H : sp_H) : Nat := H.1
abbrev sp_tx (H : sp_H) : sp_T := H.2.1
abbrev sp_p1 (H : sp_H) : Nat → Option Nat := H.2.2.1
abbrev sp_p2 (H : sp_H) : Nat → Option Nat := H.2.2.2.1
abbrev sp_rr (H : sp_H) : Nat → Nat := H.2.2.2.2
abbrev sp_tip (R : sp_R) : Nat → Option Nat := R.1
abbrev sp_cur (R : sp_R) : Nat := R.2.1
abbrev sp_held (R : sp_R) : Nat := R.2.2.1
abbrev sp_wk (R : sp_R) : sp_T := R.2.2.2.1
abbrev sp_ix (R : sp_R) : sp_T := R.2.2.2.2
def sp_up {α : Type} (f : Nat → α) (k : Nat) (v : α) : Nat → α := fun j => if j = k then v else f j
def sp_of (H : sp_H) (c : Option Nat) (f : Nat) : Option (List Nat) := match c with
  | none => none
  | some k => sp_tx H (4 * k + f)
def sp_ro (H : sp_H) (c : Option Nat) : Nat := match c with
  | none => 0
  | some k => sp_rr H k
def sp_head (R : sp_R) : Option Nat := sp_tip R (sp_cur R)
def sp_eq4 (a b : sp_T) : Bool := decide (a 0 = b 0 ∧ a 1 = b 1 ∧ a 2 = b 2 ∧ a 3 = b 3)
def sp_clean (H : sp_H) (R : sp_R) : Bool := sp_eq4 (sp_of H (sp_head R)) (sp_wk R) && sp_eq4 (sp_of H (sp_head R)) (sp_ix R)
def sp_add (H : sp_H) (t : sp_T) (p1 p2 : Option Nat) : sp_H := (sp_n H + 1, (fun j => if 4 * sp_n H ≤ j ∧ j < 4 * sp_n H + 4 then t (j - 4 * sp_n H) else sp_tx H j), sp_up (sp_p1 H) (sp_n H) p1, sp_up (sp_p2 H) (sp_n H) p2, sp_up (sp_rr H) (sp_n H) (2 ^ sp_n H ||| sp_ro H p1 ||| sp_ro H p2))
def sp_mv (H : sp_H) (R : sp_R) (c : Nat) : sp_R := (sp_up (sp_tip R) (sp_cur R) (some c), sp_cur R, sp_held R ||| sp_rr H c, sp_of H (some c), sp_of H (some c))
def sp_set (S : sp_S) (r : Nat) (R : sp_R) : sp_S := (S.1, sp_up S.2 r R)
/-- an index below N -/
def sp_in (N : Nat) (x : Int32) : Option Nat := if 0 ≤ x.toInt ∧ x.toInt < (N : Int) then some x.toInt.toNat else none
def sp_vi (c : Option Nat) : Int32 := match c with
  | none => -2
  | some k => nI k
def sp_bi (b : Bool) : Int32 := if b then 1 else 0
/-- a text's number: its lines, four bits each, below its length at bit 32 -/
def sp_dig : List Nat → Nat
  | [] => 0
  | d :: ds => d + 16 * sp_dig ds
def sp_enc (t : List Nat) : Nat := t.length * 4294967296 + sp_dig t
def sp_tv (t : Option (List Nat)) : Int64 := match t with
  | none => -2
  | some t => lN (sp_enc t)
/-- the lines of a number, k of them -/
def sp_dec (m : Nat) : Nat → List Nat
  | 0 => []
  | k + 1 => m % 16 :: sp_dec (m / 16) k
def sp_write (S : sp_S) (x y : Int32) (m : Nat) (z : Int32) : Int32 × sp_S := match sp_in 2 x, sp_in 4 y, sp_in 9 z with
  | some r, some f, some k => (1, sp_set S r (sp_tip (S.2 r), sp_cur (S.2 r), sp_held (S.2 r), sp_up (sp_wk (S.2 r)) f (some (sp_dec m k)), sp_ix (S.2 r)))
  | _, _, _ => (0, S)
def sp_remove (S : sp_S) (x y : Int32) : Int32 × sp_S := match sp_in 2 x, sp_in 4 y with
  | some r, some f => (1, sp_set S r (sp_tip (S.2 r), sp_cur (S.2 r), sp_held (S.2 r), sp_up (sp_wk (S.2 r)) f none, sp_ix (S.2 r)))
  | _, _ => (0, S)
def sp_stage (S : sp_S) (x y : Int32) : Int32 × sp_S := match sp_in 2 x, sp_in 4 y with
  | some r, some f => (1, sp_set S r (sp_tip (S.2 r), sp_cur (S.2 r), sp_held (S.2 r), sp_wk (S.2 r), sp_up (sp_ix (S.2 r)) f (sp_wk (S.2 r) f)))
  | _, _ => (0, S)
def sp_commit (S : sp_S) (x : Int32) : Int32 × sp_S := match sp_in 2 x with
  | some r => if sp_eq4 (sp_of S.1 (sp_head (S.2 r))) (sp_ix (S.2 r)) then (-4, S) else if 40 ≤ sp_n S.1 then (-6, S) else
    (nI (sp_n S.1), sp_add S.1 (sp_ix (S.2 r)) (sp_head (S.2 r)) none, sp_up S.2 r (sp_up (sp_tip (S.2 r)) (sp_cur (S.2 r)) (some (sp_n S.1)), sp_cur (S.2 r), sp_held (S.2 r) ||| 2 ^ sp_n S.1, sp_wk (S.2 r), sp_ix (S.2 r)))
  | none => (-1, S)
def sp_branch (S : sp_S) (x y : Int32) : Int32 × sp_S := match sp_in 2 x, sp_in 4 y with
  | some r, some b => if sp_tip (S.2 r) b ≠ none ∨ sp_head (S.2 r) = none then (0, S) else (1, sp_set S r (sp_up (sp_tip (S.2 r)) b (sp_head (S.2 r)), sp_cur (S.2 r), sp_held (S.2 r), sp_wk (S.2 r), sp_ix (S.2 r)))
  | _, _ => (0, S)
def sp_drop (S : sp_S) (x y : Int32) : Int32 × sp_S := match sp_in 2 x, sp_in 4 y with
  | some r, some b => if sp_tip (S.2 r) b = none ∨ sp_cur (S.2 r) = b then (0, S) else (1, sp_set S r (sp_up (sp_tip (S.2 r)) b none, sp_cur (S.2 r), sp_held (S.2 r), sp_wk (S.2 r), sp_ix (S.2 r)))
  | _, _ => (0, S)
def sp_checkout (S : sp_S) (x y : Int32) : Int32 × sp_S := match sp_in 2 x, sp_in 4 y with
  | some r, some b => match sp_tip (S.2 r) b with
    | none => (-2, S)
    | some c => if sp_clean S.1 (S.2 r) then (nI c, sp_set S r (sp_mv S.1 (sp_tip (S.2 r), b, sp_held (S.2 r), sp_wk (S.2 r), sp_ix (S.2 r)) c)) else (-3, S)
  | _, _ => (-1, S)
/-- the lowest commit that both reach and that no other such reaches -/
def sp_best (H : sp_H) (both c : Nat) : Bool := both.testBit c && (List.range (sp_n H)).all (fun d => d == c || !both.testBit d || !(sp_rr H d).testBit c)
def sp_base (H : sp_H) (a b : Option Nat) : Option Nat := (List.range (sp_n H)).find? (sp_best H (sp_ro H a &&& sp_ro H b))
def sp_merge (S : sp_S) (x y : Int32) : Int32 × sp_S := match sp_in 2 x, sp_in 4 y with
  | some r, some b => match sp_tip (S.2 r) b, sp_head (S.2 r) with
    | some o, some h => if !sp_clean S.1 (S.2 r) then (-3, S) else if (sp_rr S.1 h).testBit o then (-4, S) else if (sp_rr S.1 o).testBit h then (nI o, sp_set S r (sp_mv S.1 (S.2 r) o)) else
      match sp_snap (sp_of S.1 (sp_base S.1 (some h) (some o))) (sp_of S.1 (some h)) (sp_of S.1 (some o)) with
      | none => (-5, S)
      | some t => if 40 ≤ sp_n S.1 then (-6, S) else (nI (sp_n S.1), sp_add S.1 t (some h) (some o), sp_up S.2 r (sp_mv (sp_add S.1 t (some h) (some o)) (S.2 r) (sp_n S.1)))
    | _, _ => (-2, S)
  | _, _ => (-1, S)
/-- what doing commit c again on the texts t gives: none: a clash; some none: nothing; some (some u): the texts u -/
def sp_again (H : sp_H) (c : Nat) (t : sp_T) : Option (Option sp_T) := match sp_snap (sp_of H (sp_p1 H c)) t (sp_of H (some c)) with
  | none => none
  | some u => if sp_eq4 u t then some none else some (some u)
def sp_pick (S : sp_S) (x y : Int32) : Int32 × sp_S := match sp_in 2 x with
  | none => (-1, S)
  | some r => match sp_in (sp_n S.1) y, sp_head (S.2 r) with
    | some c, some h => if !(sp_held (S.2 r)).testBit c then (-2, S) else if !sp_clean S.1 (S.2 r) then (-3, S) else if sp_p2 S.1 c ≠ none then (-4, S) else
      match sp_again S.1 c (sp_of S.1 (some h)) with
      | none => (-5, S)
      | some none => (-4, S)
      | some (some t) => if 40 ≤ sp_n S.1 then (-6, S) else (nI (sp_n S.1), sp_add S.1 t (some h) none, sp_up S.2 r (sp_mv (sp_add S.1 t (some h) none) (S.2 r) (sp_n S.1)))
    | _, _ => (-2, S)
/-- the commits of a set from c on are done again, k commits are looked at: an answer below 0, or the texts of the new commits in their order -/
def sp_replay (H : sp_H) (todo : Nat) : Nat → Nat → sp_T → List sp_T → Int32 ⊕ List sp_T
  | 0, _, _, acc => .inr acc
  | k + 1, c, t, acc => if todo.testBit c ∧ sp_p2 H c = none then
      match sp_again H c t with
      | none => .inl (-5)
      | some none => sp_replay H todo k (c + 1) t acc
      | some (some u) => if 40 ≤ sp_n H + acc.length then .inl (-6) else sp_replay H todo k (c + 1) u (acc ++ [u])
    else sp_replay H todo k (c + 1) t acc
/-- new commits, one behind the other -/
def sp_adds (H : sp_H) (onto : Option Nat) : List sp_T → sp_H × Option Nat
  | [] => (H, onto)
  | t :: ts => sp_adds (sp_add H t onto none) (some (sp_n H)) ts
def sp_rebase (S : sp_S) (x y : Int32) : Int32 × sp_S := match sp_in 2 x, sp_in 4 y with
  | some r, some b => match sp_tip (S.2 r) b, sp_head (S.2 r) with
    | some o, some h => if !sp_clean S.1 (S.2 r) then (-3, S) else
      match sp_replay S.1 (sp_rr S.1 h &&& (sp_rr S.1 h ^^^ sp_rr S.1 o)) (sp_n S.1) 0 (sp_of S.1 (some o)) [] with
      | .inl e => (e, S)
      | .inr ts => (nI ts.length, (sp_adds S.1 (some o) ts).1, sp_up S.2 r (sp_mv (sp_adds S.1 (some o) ts).1 (S.2 r) (if ts.length = 0 then o else sp_n S.1 + ts.length - 1)))
    | _, _ => (-2, S)
  | _, _ => (-1, S)
def sp_all (H : sp_H) (R : sp_R) : Nat := sp_ro H (sp_tip R 0) ||| sp_ro H (sp_tip R 1) ||| sp_ro H (sp_tip R 2) ||| sp_ro H (sp_tip R 3)
def sp_collect (S : sp_S) (x : Int32) : Int32 × sp_S := match sp_in 2 x with
  | some r => (nI (xp_cnt (sp_held (S.2 r)) 64 - xp_cnt (sp_held (S.2 r) &&& sp_all S.1 (S.2 r)) 64), sp_set S r (sp_tip (S.2 r), sp_cur (S.2 r), sp_held (S.2 r) &&& sp_all S.1 (S.2 r), sp_wk (S.2 r), sp_ix (S.2 r)))
  | none => (-1, S)
def sp_send (S : sp_S) (x y : Int32) : Int32 × sp_S := match sp_in 2 x, sp_in 4 y with
  | some r, some b => match sp_tip (S.2 r) b with
    | none => (-2, S)
    | some c => if sp_cur (S.2 (1 - r)) = b then (-3, S) else if sp_tip (S.2 (1 - r)) b ≠ none ∧ ¬ (sp_rr S.1 c).testBit ((sp_tip (S.2 (1 - r)) b).getD 0) then (-7, S) else
      (nI (xp_cnt (sp_held (S.2 (1 - r)) ||| sp_rr S.1 c) 64 - xp_cnt (sp_held (S.2 (1 - r))) 64), sp_set S (1 - r) (sp_up (sp_tip (S.2 (1 - r))) b (some c), sp_cur (S.2 (1 - r)), sp_held (S.2 (1 - r)) ||| sp_rr S.1 c, sp_wk (S.2 (1 - r)), sp_ix (S.2 (1 - r))))
  | _, _ => (-1, S)
def sp_current (S : sp_S) (x : Int32) : Int32 := match sp_in 2 x with
  | some r => nI (sp_cur (S.2 r))
  | none => -1
def sp_tipq (S : sp_S) (x y : Int32) : Int32 := match sp_in 2 x, sp_in 4 y with
  | some r, some b => sp_vi (sp_tip (S.2 r) b)
  | _, _ => -1
def sp_holds (S : sp_S) (x y : Int32) : Int32 := match sp_in 2 x, sp_in (sp_n S.1) y with
  | some r, some c => sp_bi ((sp_held (S.2 r)).testBit c)
  | _, _ => 0
def sp_parent (S : sp_S) (x y : Int32) : Int32 := match sp_in (sp_n S.1) x, sp_in 2 y with
  | some c, some k => sp_vi (if k = 0 then sp_p1 S.1 c else sp_p2 S.1 c)
  | _, _ => -1
def sp_text (S : sp_S) (x y : Int32) : Int64 := match sp_in (sp_n S.1) x, sp_in 4 y with
  | some c, some f => sp_tv (sp_tx S.1 (4 * c + f))
  | _, _ => -1
def sp_working (S : sp_S) (x y : Int32) : Int64 := match sp_in 2 x, sp_in 4 y with
  | some r, some f => sp_tv (sp_wk (S.2 r) f)
  | _, _ => -1
def sp_staged (S : sp_S) (x y : Int32) : Int64 := match sp_in 2 x, sp_in 4 y with
  | some r, some f => sp_tv (sp_ix (S.2 r) f)
  | _, _ => -1
def sp_baseq (S : sp_S) (x y : Int32) : Int32 := match sp_in (sp_n S.1) x, sp_in (sp_n S.1) y with
  | some a, some b => sp_vi (sp_base S.1 (some a) (some b))
  | _, _ => -1
end
section
/-! Calls whose end is a relation; small facts on numbers. (Printed by gen_rules2.py.) -/
section XV
variable {L : Nat} {xs : Nat → Int32} {call : xm_K} {M : xm_M} {Q : xm_Q} {pc pc' : Nat} {lo lo' st st' : List Value} {h h' : xm_H} {c s c' s' : Nat}
theorem x_staticR {j n : Nat} {Mj : xm_M} {as r : List Value} {Post : Option Value → xm_H → Prop} (d : decode (xm_by M) pc = .ok (.invokestatic j, 3)) (e : pc + 3 = pc') (hf : xm_cs (xm_y M).cls j Mj n) (hst : st = as.reverse ++ r) (hn : as.length = n) (hr : xm_sum r ≤ 8) (hc : c + xm_mc Mj ≤ xm_mc M) (hs : s + xm_ms Mj ≤ xm_ms M) (hcall : ∀ Q', (∀ v h', Post v h' → Q' v h') → call Mj as h Q') (hc' : c + xm_mc Mj = c') (hs' : s + xm_ms Mj = s') (k : ∀ v h', Post v h' → xm_X L xs call M (pc', lo, v.toList ++ r, h', c', s') Q) : xm_X L xs call M (pc, lo, st, h, c, s) Q := by
  subst e; subst hst; subst hn; subst hc'; subst hs'
  exact fun P hP => hP _ _ _ _ _ _ _ _ d ⟨rfl, Or.inr ⟨Mj, as, hf.1, hf.2.1, hf.2.2.1, hf.2.2.2, r, rfl, hr, hc, hs, hcall _ (fun v h' hp => k v h' hp P hP)⟩⟩
theorem x_virtualR {j n ci a : Nat} {Mj : xm_M} {as r fs : List Value} {Post : Option Value → xm_H → Prop} (d : decode (xm_by M) pc = .ok (.invokevirtual j, 3)) (e : pc + 3 = pc') (hf : xm_cv (xm_y M).cls j Mj n ci) (ha : h[a]? = some (.inr (ci, fs))) (hst : st = (Value.ref a :: as).reverse ++ r) (hn : as.length = n) (hr : xm_sum r ≤ 8) (hc : c + xm_mc Mj ≤ xm_mc M) (hs : s + xm_ms Mj ≤ xm_ms M) (hcall : ∀ Q', (∀ v h', Post v h' → Q' v h') → call Mj (.ref a :: as) h Q') (hc' : c + xm_mc Mj = c') (hs' : s + xm_ms Mj = s') (k : ∀ v h', Post v h' → xm_X L xs call M (pc', lo, v.toList ++ r, h', c', s') Q) : xm_X L xs call M (pc, lo, st, h, c, s) Q := by
  subst e; subst hst; subst hn; subst hc'; subst hs'
  obtain ⟨h1, h2, h3, h4, h5, C, T, N, ty, h6, h7⟩ := hf
  exact fun P hP => hP _ _ _ _ _ _ _ _ d ⟨rfl, Mj, as, a, ci, fs, C, T, N, ty, h1, h2, h3, h4, h5, h6, h7, ha, r, rfl, hr, hc, hs, hcall _ (fun v h' hp => k v h' hp P hP)⟩
theorem x_specialR {j n a : Nat} {Mj : xm_M} {as r : List Value} {Post : Option Value → xm_H → Prop} (d : decode (xm_by M) pc = .ok (.invokespecial j, 3)) (e : pc + 3 = pc') (hf : xm_cn (xm_y M).cls j Mj n) (hst : st = (Value.ref a :: as).reverse ++ r) (hn : as.length = n) (hr : xm_sum r ≤ 8) (hc : c + xm_mc Mj ≤ xm_mc M) (hs : s + xm_ms Mj ≤ xm_ms M) (hcall : ∀ Q', (∀ v h', Post v h' → Q' v h') → call Mj (.ref a :: as) h Q') (hc' : c + xm_mc Mj = c') (hs' : s + xm_ms Mj = s') (k : ∀ v h', Post v h' → xm_X L xs call M (pc', lo, v.toList ++ r, h', c', s') Q) : xm_X L xs call M (pc, lo, st, h, c, s) Q := by
  subst e; subst hst; subst hn; subst hc'; subst hs'
  exact fun P hP => hP _ _ _ _ _ _ _ _ d ⟨rfl, Or.inr ⟨Mj, as, a, hf.1, hf.2.1, hf.2.2.1, hf.2.2.2.1, hf.2.2.2.2.1, hf.2.2.2.2.2, r, rfl, hr, hc, hs, hcall _ (fun v h' hp => k v h' hp P hP)⟩⟩
end XV
theorem sp_nI_inc (k : Nat) : nI k + Int32.ofInt 1 = nI (k + 1) := by
  rw [show Int32.ofInt 1 = 1 by decide]
  exact nI_1 k
theorem sp_nI_inj {a b : Nat} (ha : a < 2 ^ 31) (hb : b < 2 ^ 31) (h : nI a = nI b) : a = b := (nI_eq ha hb).mp h
theorem sp_nI_ne2 {k : Nat} (h : k < 2 ^ 31) : nI k ≠ -2 := by
  intro e
  have := nI_toInt h
  rw [e] at this
  have h2 : (-2 : Int32).toInt = -2 := by decide
  omega
theorem sp_vi_ge {c : Option Nat} {n : Nat} (hn : n ≤ 2 ^ 30) (hc : ∀ k, c = some k → k < n) : (sp_vi c < 0 ↔ c = none) ∧ (sp_vi c = -2 ↔ c = none) := by
  cases c with
  | none => exact ⟨⟨fun _ => rfl, fun _ => by decide⟩, ⟨fun _ => rfl, fun _ => rfl⟩⟩
  | some k =>
    have hk := hc k rfl
    refine ⟨⟨fun h => absurd h (nI_pos (by omega)), fun h => by cases h⟩, ⟨fun h => absurd h (sp_nI_ne2 (by omega)), fun h => by cases h⟩⟩
theorem sp_bi_t : sp_bi true = 1 := rfl
theorem sp_bi_f : sp_bi false = 0 := rfl
theorem sp_bi_eq0 {b : Bool} : sp_bi b = 0 ↔ b = false := by cases b <;> decide
theorem sp_bi_nar (b : Bool) : narrow .boolean (.int (sp_bi b)) = .int (sp_bi b) := by cases b <;> decide
theorem sp_in_some {N k : Nat} (hk : k < N) (hN : N ≤ 2 ^ 30) : sp_in N (nI k) = some k := by
  unfold sp_in
  rw [nI_toInt (by omega), if_pos ⟨by omega, by omega⟩]
  simp
theorem sp_in_lt {N : Nat} {x : Int32} (h : x < 0) : sp_in N x = none := by
  unfold sp_in
  rw [Int32.lt_iff_toInt_lt, Int32.toInt_zero] at h
  rw [if_neg (by omega)]
theorem sp_in_ge {N : Nat} {x : Int32} (hN : N ≤ 2 ^ 30) (h : nI N ≤ x) : sp_in N x = none := by
  unfold sp_in
  rw [Int32.le_iff_toInt_le, nI_toInt (by omega)] at h
  rw [if_neg (by omega)]
theorem sp_in_cases (N : Nat) (hN : N ≤ 2 ^ 30) (x : Int32) : (x < 0 ∧ sp_in N x = none) ∨ (¬ x < 0 ∧ nI N ≤ x ∧ sp_in N x = none) ∨ ∃ k, k < N ∧ x = nI k ∧ sp_in N x = some k := by
  rcases pk_ix x (n := N) (by omega) with h | h | ⟨j, hj, rfl⟩
  · exact Or.inl ⟨h, sp_in_lt h⟩
  · by_cases h0 : x < 0
    · exact Or.inl ⟨h0, sp_in_lt h0⟩
    · exact Or.inr (Or.inl ⟨h0, h, sp_in_ge hN h⟩)
  · exact Or.inr (Or.inr ⟨j, hj, rfl, sp_in_some hj hN⟩)
theorem sp_tb (m k : Nat) : m.testBit k = decide (m / 2 ^ k % 2 = 1) := by rw [Nat.testBit_eq_decide_div_mod_eq]
theorem sp_tb_0 {m k : Nat} (h : lg_cmp (lN (m / 2 ^ k % 2)) 0 = 0) : m.testBit k = false := by
  rw [lg_cmp_eq] at h
  rw [sp_tb]
  have h2 : m / 2 ^ k % 2 < 2 := Nat.mod_lt _ (by decide)
  have h3 : m / 2 ^ k % 2 = 0 := (pk_lEQ (a := m / 2 ^ k % 2) (b := 0) (by omega) (by decide)).mp h
  simp [h3]
theorem sp_tb_1 {m k : Nat} (h : ¬ lg_cmp (lN (m / 2 ^ k % 2)) 0 = 0) : m.testBit k = true := by
  rw [lg_cmp_eq] at h
  rw [sp_tb]
  have h2 : m / 2 ^ k % 2 < 2 := Nat.mod_lt _ (by decide)
  have h3 : ¬ m / 2 ^ k % 2 = 0 := fun e => h (by rw [e]; rfl)
  simp
  omega
theorem sp_lt64 {m k : Nat} (hm : m < 2 ^ 64) : m / 2 ^ k < 2 ^ 64 := Nat.lt_of_le_of_lt (Nat.div_le_self _ _) hm
end
section
/-! The commits' row as the heap holds it; contracts of the methods that read it. (Printed by c_hist.py.) -/
def sp_ok (n : Nat) (c : Option Nat) : Prop := ∀ k, c = some k → k < n
theorem x_q {Q : xm_Q} {h : xm_H} {a b : Int32} (e : a = b) (q : Q (some (.int a)) h) : Q (some (.int b)) h := e ▸ q
theorem x_ql {Q : xm_Q} {h : xm_H} {a b : Int64} (e : a = b) (q : Q (some (.long a)) h) : Q (some (.long b)) h := e ▸ q
def ch_o (h : xm_H) (n : Nat) : Prop := n ≤ 40 ∧ h[1]? = some (.inr (0, [.ref 2, .ref 3, .ref 4, .ref 5, .int (nI n)]))
def ch_H (h : xm_H) (H : sp_H) : Prop := ch_o h (sp_n H) ∧ (∃ T : Nat → Int64, h[2]? = some (.inl (.long, 160, .inr (.inl T))) ∧ ∀ j, j < 4 * sp_n H → T j = sp_tv (sp_tx H j)) ∧ (∃ P : Nat → Int32, h[3]? = some (.inl (.int, 40, .inl P)) ∧ ∀ c, c < sp_n H → P c = sp_vi (sp_p1 H c)) ∧
  (∃ P : Nat → Int32, h[4]? = some (.inl (.int, 40, .inl P)) ∧ ∀ c, c < sp_n H → P c = sp_vi (sp_p2 H c)) ∧ ∃ R : Nat → Int64, h[5]? = some (.inl (.long, 40, .inr (.inl R))) ∧ ∀ c, c < sp_n H → R c = lN (sp_rr H c)
theorem sp_made_t {n : Nat} (hn : n ≤ 2 ^ 30) {x : Int32} (h0 : ¬ x < 0) (h1 : ¬ nI n ≤ x) : ∃ k, k < n ∧ x = nI k := by
  rcases sp_in_cases n hn x with h | h | ⟨k, h2, h3, -⟩
  · exact absurd h.1 h0
  · exact absurd h.2.1 h1
  · exact ⟨k, h2, h3⟩
theorem c_H_isIn {L : Nat} {xs : Nat → Int32} {d : Nat} {h : xm_H} {m k : Nat} {Q : xm_Q} (hm : m < 2 ^ 64) (hk : k < 64) (hQ : Q (some (.int (sp_bi (m.testBit k)))) h) : xm_call L xs (d + 1) m_H_isIn [.long (lN m), .int (nI k)] h Q := by
  refine x_call (lo := [.long (lN m), .float 0, .int (nI k)]) (Nat.le_of_ble_eq_true rfl) rfl ?_
  refine x_lload_n (pc' := 1) d_H_isIn_0 rfl rfl rfl ?_
  refine x_iload_n (pc' := 2) d_H_isIn_1 rfl rfl ?_
  refine x_lushr (z := lN (m / 2 ^ k)) (pc' := 3) d_H_isIn_2 rfl (wb_shr hm hk) ?_
  refine x_lconst (v := 1) (pc' := 4) d_H_isIn_3 rfl (by decide) ?_
  refine x_land (z := lN (m / 2 ^ k % 2)) (pc' := 5) d_H_isIn_4 rfl (wb_a1 (sp_lt64 hm)) ?_
  refine x_lconst (v := 0) (pc' := 6) d_H_isIn_5 rfl (by decide) ?_
  refine x_lcmp (z := lg_cmp (lN (m / 2 ^ k % 2)) 0) (pc' := 7) d_H_isIn_6 rfl rfl ?_
  refine x_ifeq (t := 14) (pc' := 10) d_H_isIn_7 rfl rfl (fun q => ?_) (fun q => ?_)
  · refine x_iconst (v := 0) (pc' := 15) d_H_isIn_14 rfl (by decide) ?_
    exact x_ireturn d_H_isIn_15 rfl rfl (x_q (by rw [sp_tb_0 q]; rfl) hQ)
  · refine x_iconst (v := 1) (pc' := 11) d_H_isIn_10 rfl (by decide) ?_
    refine x_goto (t := 15) d_H_isIn_11 rfl ?_
    exact x_ireturn d_H_isIn_15 rfl rfl (x_q (by rw [sp_tb_1 q]; rfl) hQ)
theorem c_H_made {L : Nat} {xs : Nat → Int32} {d : Nat} {h : xm_H} {n k : Nat} {Q : xm_Q} (hH : ch_o h n) (hk : k < n) (hQ : Q (some (.int 1)) h) : xm_call L xs (d + 1) m_H_isMade [.ref 1, .int (nI k)] h Q := by
  refine x_call (lo := [.ref 1, .int (nI k)]) (Nat.le_of_ble_eq_true rfl) rfl ?_
  refine x_iload_n (pc' := 1) d_H_isMade_0 rfl rfl ?_
  refine x_iflt (t := 16) (pc' := 4) d_H_isMade_1 rfl rfl (fun q => absurd q (nI_pos (by have := hH.1; omega))) (fun _ => ?_)
  refine x_iload_n (pc' := 5) d_H_isMade_4 rfl rfl ?_
  refine x_aload_n (pc' := 6) d_H_isMade_5 rfl rfl ?_
  refine x_getfield (ci := 0) (i := 4) (v := .int (nI n)) (pc' := 9) d_H_isMade_6 rfl g_H_25 hH.2 rfl ?_
  refine x_icmpge (t := 16) (pc' := 12) d_H_isMade_9 rfl rfl (fun q => absurd q (nI_ge hk (by have := hH.1; omega))) (fun _ => ?_)
  refine x_iconst (v := 1) (pc' := 13) d_H_isMade_12 rfl (by decide) ?_
  refine x_goto (t := 17) d_H_isMade_13 rfl ?_
  exact x_ireturn d_H_isMade_17 rfl rfl hQ
theorem c_H_unmade {L : Nat} {xs : Nat → Int32} {d : Nat} {h : xm_H} {n : Nat} {x : Int32} {Q : xm_Q} (hH : ch_o h n) (hx : sp_in n x = none) (hQ : Q (some (.int 0)) h) : xm_call L xs (d + 1) m_H_isMade [.ref 1, .int x] h Q := by
  refine x_call (lo := [.ref 1, .int x]) (Nat.le_of_ble_eq_true rfl) rfl ?_
  refine x_iload_n (pc' := 1) d_H_isMade_0 rfl rfl ?_
  refine x_iflt (t := 16) (pc' := 4) d_H_isMade_1 rfl rfl (fun q1 => ?_) (fun q1 => ?_)
  · refine x_iconst (v := 0) (pc' := 17) d_H_isMade_16 rfl (by decide) ?_
    exact x_ireturn d_H_isMade_17 rfl rfl hQ
  · refine x_iload_n (pc' := 5) d_H_isMade_4 rfl rfl ?_
    refine x_aload_n (pc' := 6) d_H_isMade_5 rfl rfl ?_
    refine x_getfield (ci := 0) (i := 4) (v := .int (nI n)) (pc' := 9) d_H_isMade_6 rfl g_H_25 hH.2 rfl ?_
    refine x_icmpge (t := 16) (pc' := 12) d_H_isMade_9 rfl rfl (fun q2 => ?_) (fun q2 => ?_)
    · refine x_iconst (v := 0) (pc' := 17) d_H_isMade_16 rfl (by decide) ?_
      exact x_ireturn d_H_isMade_17 rfl rfl hQ
    · exact absurd hx (by obtain ⟨k, hk, rfl⟩ := sp_made_t (by have := hH.1; omega) q1 q2; rw [sp_in_some hk (by have := hH.1; omega)]; exact fun z => by cases z)
theorem c_H_textOf1 {L : Nat} {xs : Nat → Int32} {d : Nat} {h : xm_H} {H : sp_H} {Q : xm_Q} {k f : Nat} (hH : ch_H h H) (hk : k < sp_n H) (hf : f < 4) (hQ : Q (some (.long (sp_tv (sp_of H (some k) f)))) h) : xm_call L xs (d + 2) m_H_textOf [.ref 1, .int (nI k), .int (nI f)] h Q := by
  obtain ⟨T, hT, hT2⟩ := hH.2.1
  refine x_call (lo := [.ref 1, .int (nI k), .int (nI f)]) (Nat.le_of_ble_eq_true rfl) rfl ?_
  refine x_aload_n (pc' := 1) d_H_textOf_0 rfl rfl ?_
  refine x_iload_n (pc' := 2) d_H_textOf_1 rfl rfl ?_
  refine x_virtual (a := 1) (as := [.int (nI k)]) (r := []) (v := (some (.int 1))) (h' := h) (st' := [.int 1]) (c' := 0) (s' := 0) (pc' := 5) d_H_textOf_2 rfl c_H_29 hH.1.2 rfl rfl (Nat.le_of_ble_eq_true rfl) (Nat.le_of_ble_eq_true rfl) (Nat.le_of_ble_eq_true rfl) (fun Q' hq => c_H_made hH.1 hk hq) rfl rfl rfl ?_
  refine x_ifeq (t := 21) (pc' := 8) d_H_textOf_5 rfl rfl (fun q => absurd q (by decide)) (fun _ => ?_)
  refine x_aload_n (pc' := 9) d_H_textOf_8 rfl rfl ?_
  refine x_getfield (ci := 0) (i := 0) (v := .ref 2) (pc' := 12) d_H_textOf_9 rfl g_H_9 hH.1.2 rfl ?_
  refine x_iload_n (pc' := 13) d_H_textOf_12 rfl rfl ?_
  refine x_iconst (v := nI 4) (pc' := 14) d_H_textOf_13 rfl (by decide) ?_
  refine x_imul (z := nI (k * 4)) (pc' := 15) d_H_textOf_14 rfl (pk_mul k 4) ?_
  refine x_iload_n (pc' := 16) d_H_textOf_15 rfl rfl ?_
  refine x_iadd (z := nI (k * 4 + f)) (pc' := 17) d_H_textOf_16 rfl (nI_add _ _) ?_
  refine x_laload (v := sp_tv (sp_of H (some k) f)) (pc' := 18) d_H_textOf_17 rfl hT (vp_in_nI (by have := hH.1.1; omega) (by decide)) (by rw [nI_clamp (by have := hH.1.1; omega), hT2 _ (by omega)]; show _ = sp_tv (sp_tx H (4 * k + f)); rw [Nat.mul_comm k 4]) ?_
  refine x_goto (t := 24) d_H_textOf_18 rfl ?_
  exact x_lreturn d_H_textOf_24 rfl hQ
theorem c_H_textOf0 {L : Nat} {xs : Nat → Int32} {d : Nat} {h : xm_H} {H : sp_H} {Q : xm_Q} {y : Int32} (hH : ch_H h H) (hQ : Q (some (.long (-2))) h) : xm_call L xs (d + 2) m_H_textOf [.ref 1, .int (-2), .int y] h Q := by
  refine x_call (lo := [.ref 1, .int (-2), .int y]) (Nat.le_of_ble_eq_true rfl) rfl ?_
  refine x_aload_n (pc' := 1) d_H_textOf_0 rfl rfl ?_
  refine x_iload_n (pc' := 2) d_H_textOf_1 rfl rfl ?_
  refine x_virtual (a := 1) (as := [.int (-2)]) (r := []) (v := (some (.int 0))) (h' := h) (st' := [.int 0]) (c' := 0) (s' := 0) (pc' := 5) d_H_textOf_2 rfl c_H_29 hH.1.2 rfl rfl (Nat.le_of_ble_eq_true rfl) (Nat.le_of_ble_eq_true rfl) (Nat.le_of_ble_eq_true rfl) (fun Q' hq => c_H_unmade hH.1 (sp_in_lt (by decide)) hq) rfl rfl rfl ?_
  refine x_ifeq (t := 21) (pc' := 8) d_H_textOf_5 rfl rfl (fun _ => ?_) (fun q => absurd rfl q)
  refine x_ldc2_w (x := (-2)) (pc' := 24) d_H_textOf_21 rfl k_H_33 ?_
  exact x_lreturn d_H_textOf_24 rfl hQ
theorem c_H_textOf {L : Nat} {xs : Nat → Int32} {d : Nat} {h : xm_H} {H : sp_H} {Q : xm_Q} {c : Option Nat} {f : Nat} (hH : ch_H h H) (hc : sp_ok (sp_n H) c) (hf : f < 4) (hQ : Q (some (.long (sp_tv (sp_of H c f)))) h) : xm_call L xs (d + 2) m_H_textOf [.ref 1, .int (sp_vi c), .int (nI f)] h Q := by
  cases c with
  | none => exact c_H_textOf0 hH hQ
  | some k => exact c_H_textOf1 hH (hc k rfl) hf hQ
theorem c_H_reachOf1 {L : Nat} {xs : Nat → Int32} {d : Nat} {h : xm_H} {H : sp_H} {Q : xm_Q} {k : Nat} (hH : ch_H h H) (hk : k < sp_n H) (hQ : Q (some (.long (lN (sp_rr H k)))) h) : xm_call L xs (d + 2) m_H_reachOf [.ref 1, .int (nI k)] h Q := by
  obtain ⟨T, hT, hT2⟩ := hH.2.2.2.2
  refine x_call (lo := [.ref 1, .int (nI k)]) (Nat.le_of_ble_eq_true rfl) rfl ?_
  refine x_aload_n (pc' := 1) d_H_reachOf_0 rfl rfl ?_
  refine x_iload_n (pc' := 2) d_H_reachOf_1 rfl rfl ?_
  refine x_virtual (a := 1) (as := [.int (nI k)]) (r := []) (v := (some (.int 1))) (h' := h) (st' := [.int 1]) (c' := 0) (s' := 0) (pc' := 5) d_H_reachOf_2 rfl c_H_29 hH.1.2 rfl rfl (Nat.le_of_ble_eq_true rfl) (Nat.le_of_ble_eq_true rfl) (Nat.le_of_ble_eq_true rfl) (fun Q' hq => c_H_made hH.1 hk hq) rfl rfl rfl ?_
  refine x_ifeq (t := 17) (pc' := 8) d_H_reachOf_5 rfl rfl (fun q => absurd q (by decide)) (fun _ => ?_)
  refine x_aload_n (pc' := 9) d_H_reachOf_8 rfl rfl ?_
  refine x_getfield (ci := 0) (i := 3) (v := .ref 5) (pc' := 12) d_H_reachOf_9 rfl g_H_22 hH.1.2 rfl ?_
  refine x_iload_n (pc' := 13) d_H_reachOf_12 rfl rfl ?_
  refine x_laload (v := lN (sp_rr H k)) (pc' := 14) d_H_reachOf_13 rfl hT (vp_in_nI (by have := hH.1.1; omega) (by decide)) (by rw [nI_clamp (by have := hH.1.1; omega), hT2 _ hk]) ?_
  refine x_goto (t := 18) d_H_reachOf_14 rfl ?_
  exact x_lreturn d_H_reachOf_18 rfl hQ
theorem c_H_reachOf0 {L : Nat} {xs : Nat → Int32} {d : Nat} {h : xm_H} {H : sp_H} {Q : xm_Q} (hH : ch_H h H) (hQ : Q (some (.long 0)) h) : xm_call L xs (d + 2) m_H_reachOf [.ref 1, .int (-2)] h Q := by
  refine x_call (lo := [.ref 1, .int (-2)]) (Nat.le_of_ble_eq_true rfl) rfl ?_
  refine x_aload_n (pc' := 1) d_H_reachOf_0 rfl rfl ?_
  refine x_iload_n (pc' := 2) d_H_reachOf_1 rfl rfl ?_
  refine x_virtual (a := 1) (as := [.int (-2)]) (r := []) (v := (some (.int 0))) (h' := h) (st' := [.int 0]) (c' := 0) (s' := 0) (pc' := 5) d_H_reachOf_2 rfl c_H_29 hH.1.2 rfl rfl (Nat.le_of_ble_eq_true rfl) (Nat.le_of_ble_eq_true rfl) (Nat.le_of_ble_eq_true rfl) (fun Q' hq => c_H_unmade hH.1 (sp_in_lt (by decide)) hq) rfl rfl rfl ?_
  refine x_ifeq (t := 17) (pc' := 8) d_H_reachOf_5 rfl rfl (fun _ => ?_) (fun q => absurd rfl q)
  refine x_lconst (v := 0) (pc' := 18) d_H_reachOf_17 rfl (by decide) ?_
  exact x_lreturn d_H_reachOf_18 rfl hQ
theorem c_H_reachOf {L : Nat} {xs : Nat → Int32} {d : Nat} {h : xm_H} {H : sp_H} {Q : xm_Q} {c : Option Nat} (hH : ch_H h H) (hc : sp_ok (sp_n H) c) (hQ : Q (some (.long (lN (sp_ro H c)))) h) : xm_call L xs (d + 2) m_H_reachOf [.ref 1, .int (sp_vi c)] h Q := by
  cases c with
  | none => exact c_H_reachOf0 hH hQ
  | some k => exact c_H_reachOf1 hH (hc k rfl) hQ
theorem c_H_firstParentOf {L : Nat} {xs : Nat → Int32} {d : Nat} {h : xm_H} {H : sp_H} {Q : xm_Q} {k : Nat} (hH : ch_H h H) (hk : k < sp_n H) (hQ : Q (some (.int (sp_vi (sp_p1 H k)))) h) : xm_call L xs (d + 2) m_H_firstParentOf [.ref 1, .int (nI k)] h Q := by
  obtain ⟨T, hT, hT2⟩ := hH.2.2.1
  refine x_call (lo := [.ref 1, .int (nI k)]) (Nat.le_of_ble_eq_true rfl) rfl ?_
  refine x_aload_n (pc' := 1) d_H_firstParentOf_0 rfl rfl ?_
  refine x_iload_n (pc' := 2) d_H_firstParentOf_1 rfl rfl ?_
  refine x_virtual (a := 1) (as := [.int (nI k)]) (r := []) (v := (some (.int 1))) (h' := h) (st' := [.int 1]) (c' := 0) (s' := 0) (pc' := 5) d_H_firstParentOf_2 rfl c_H_29 hH.1.2 rfl rfl (Nat.le_of_ble_eq_true rfl) (Nat.le_of_ble_eq_true rfl) (Nat.le_of_ble_eq_true rfl) (fun Q' hq => c_H_made hH.1 hk hq) rfl rfl rfl ?_
  refine x_ifeq (t := 17) (pc' := 8) d_H_firstParentOf_5 rfl rfl (fun q => absurd q (by decide)) (fun _ => ?_)
  refine x_aload_n (pc' := 9) d_H_firstParentOf_8 rfl rfl ?_
  refine x_getfield (ci := 0) (i := 1) (v := .ref 3) (pc' := 12) d_H_firstParentOf_9 rfl g_H_15 hH.1.2 rfl ?_
  refine x_iload_n (pc' := 13) d_H_firstParentOf_12 rfl rfl ?_
  refine x_iaload (v := sp_vi (sp_p1 H k)) (pc' := 14) d_H_firstParentOf_13 rfl hT (vp_in_nI (by have := hH.1.1; omega) (by decide)) (by rw [nI_clamp (by have := hH.1.1; omega), hT2 _ hk]) ?_
  refine x_goto (t := 19) d_H_firstParentOf_14 rfl ?_
  exact x_ireturn d_H_firstParentOf_19 rfl rfl hQ
theorem c_H_secondParentOf {L : Nat} {xs : Nat → Int32} {d : Nat} {h : xm_H} {H : sp_H} {Q : xm_Q} {k : Nat} (hH : ch_H h H) (hk : k < sp_n H) (hQ : Q (some (.int (sp_vi (sp_p2 H k)))) h) : xm_call L xs (d + 2) m_H_secondParentOf [.ref 1, .int (nI k)] h Q := by
  obtain ⟨T, hT, hT2⟩ := hH.2.2.2.1
  refine x_call (lo := [.ref 1, .int (nI k)]) (Nat.le_of_ble_eq_true rfl) rfl ?_
  refine x_aload_n (pc' := 1) d_H_secondParentOf_0 rfl rfl ?_
  refine x_iload_n (pc' := 2) d_H_secondParentOf_1 rfl rfl ?_
  refine x_virtual (a := 1) (as := [.int (nI k)]) (r := []) (v := (some (.int 1))) (h' := h) (st' := [.int 1]) (c' := 0) (s' := 0) (pc' := 5) d_H_secondParentOf_2 rfl c_H_29 hH.1.2 rfl rfl (Nat.le_of_ble_eq_true rfl) (Nat.le_of_ble_eq_true rfl) (Nat.le_of_ble_eq_true rfl) (fun Q' hq => c_H_made hH.1 hk hq) rfl rfl rfl ?_
  refine x_ifeq (t := 17) (pc' := 8) d_H_secondParentOf_5 rfl rfl (fun q => absurd q (by decide)) (fun _ => ?_)
  refine x_aload_n (pc' := 9) d_H_secondParentOf_8 rfl rfl ?_
  refine x_getfield (ci := 0) (i := 2) (v := .ref 4) (pc' := 12) d_H_secondParentOf_9 rfl g_H_19 hH.1.2 rfl ?_
  refine x_iload_n (pc' := 13) d_H_secondParentOf_12 rfl rfl ?_
  refine x_iaload (v := sp_vi (sp_p2 H k)) (pc' := 14) d_H_secondParentOf_13 rfl hT (vp_in_nI (by have := hH.1.1; omega) (by decide)) (by rw [nI_clamp (by have := hH.1.1; omega), hT2 _ hk]) ?_
  refine x_goto (t := 19) d_H_secondParentOf_14 rfl ?_
  exact x_ireturn d_H_secondParentOf_19 rfl rfl hQ
theorem c_H_reaches {L : Nat} {xs : Nat → Int32} {d : Nat} {h : xm_H} {H : sp_H} {Q : xm_Q} {c : Option Nat} {k : Nat} (hH : ch_H h H) (hc : sp_ok (sp_n H) c) (hm : sp_ro H c < 2 ^ 64) (hk : k < 64) (hQ : Q (some (.int (sp_bi ((sp_ro H c).testBit k)))) h) : xm_call L xs (d + 3) m_H_reaches [.ref 1, .int (sp_vi c), .int (nI k)] h Q := by
  refine x_call (lo := [.ref 1, .int (sp_vi c), .int (nI k)]) (Nat.le_of_ble_eq_true rfl) rfl ?_
  refine x_aload_n (pc' := 1) d_H_reaches_0 rfl rfl ?_
  refine x_iload_n (pc' := 2) d_H_reaches_1 rfl rfl ?_
  refine x_virtual (a := 1) (as := [.int (sp_vi c)]) (r := []) (v := (some (.long (lN (sp_ro H c))))) (h' := h) (st' := [.long (lN (sp_ro H c))]) (c' := 0) (s' := 0) (pc' := 5) d_H_reaches_2 rfl c_H_39 hH.1.2 rfl rfl (Nat.le_of_ble_eq_true rfl) (Nat.le_of_ble_eq_true rfl) (Nat.le_of_ble_eq_true rfl) (fun Q' hq => c_H_reachOf hH hc hq) rfl rfl rfl ?_
  refine x_iload_n (pc' := 6) d_H_reaches_5 rfl rfl ?_
  refine x_static (as := [.long (lN (sp_ro H c)), .int (nI k)]) (r := []) (v := (some (.int (sp_bi ((sp_ro H c).testBit k))))) (h' := h) (st' := [.int (sp_bi ((sp_ro H c).testBit k))]) (c' := 0) (s' := 0) (pc' := 9) d_H_reaches_6 rfl c_H_43 rfl rfl (Nat.le_of_ble_eq_true rfl) (Nat.le_of_ble_eq_true rfl) (Nat.le_of_ble_eq_true rfl) (fun Q' hq => c_H_isIn hm hk hq) rfl rfl rfl ?_
  exact x_ireturn d_H_reaches_9 rfl (sp_bi_nar _) hQ
def ch_R (h : xm_H) (a : Nat) (R : sp_R) : Prop := sp_cur R < 4 ∧ h[a]? = some (.inr (1, [.ref (a + 1), .ref (a + 2), .ref (a + 3), .long (lN (sp_held R)), .int (nI (sp_cur R))])) ∧ (∃ t : Nat → Int32, h[a + 1]? = some (.inl (.int, 4, .inl t)) ∧ ∀ j, j < 4 → t j = sp_vi (sp_tip R j)) ∧
  (∃ w : Nat → Int64, h[a + 2]? = some (.inl (.long, 4, .inr (.inl w))) ∧ ∀ j, j < 4 → w j = sp_tv (sp_wk R j)) ∧ ∃ x : Nat → Int64, h[a + 3]? = some (.inl (.long, 4, .inr (.inl x))) ∧ ∀ j, j < 4 → x j = sp_tv (sp_ix R j)
theorem c_R_head {L : Nat} {xs : Nat → Int32} {d : Nat} {h : xm_H} {a : Nat} {R : sp_R} {Q : xm_Q} (hR : ch_R h a R) (hQ : Q (some (.int (sp_vi (sp_head R)))) h) : xm_call L xs (d + 1) m_R_head [.ref a] h Q := by
  obtain ⟨T, hT, hT2⟩ := hR.2.2.1
  refine x_call (lo := [.ref a]) (Nat.le_of_ble_eq_true rfl) rfl ?_
  refine x_aload_n (pc' := 1) d_R_head_0 rfl rfl ?_
  refine x_getfield (ci := 1) (i := 0) (v := .ref (a + 1)) (pc' := 4) d_R_head_1 rfl g_R_9 hR.2.1 rfl ?_
  refine x_aload_n (pc' := 5) d_R_head_4 rfl rfl ?_
  refine x_getfield (ci := 1) (i := 4) (v := .int (nI (sp_cur R))) (pc' := 8) d_R_head_5 rfl g_R_28 hR.2.1 rfl ?_
  refine x_iaload (v := sp_vi (sp_head R)) (pc' := 9) d_R_head_8 rfl hT (vp_in_nI hR.1 (by decide)) (by rw [nI_clamp (by have := hR.1; omega), hT2 _ hR.1]; rfl) ?_
  exact x_ireturn d_R_head_9 rfl rfl hQ
end
section
/-! Texts by their numbers; contracts of hasSnapshot, copySnapshot, add, cutBackTo. (Printed by c_hist2.py.) -/
def sp_wt (x : Option (List Nat)) : Prop := ∀ l, x = some l → l.length ≤ 8 ∧ ∀ d ∈ l, d < 16
theorem sp_dig_lt : ∀ {l : List Nat}, (∀ d ∈ l, d < 16) → sp_dig l < 16 ^ l.length
  | [], _ => by decide
  | d :: l, h => by
    have h1 := sp_dig_lt (l := l) (fun x hx => h x (List.mem_cons_of_mem _ hx))
    have h2 := h d List.mem_cons_self
    unfold sp_dig
    rw [List.length_cons, Nat.pow_succ]
    omega
theorem sp_dig_inj : ∀ {l k : List Nat}, l.length = k.length → (∀ d ∈ l, d < 16) → (∀ d ∈ k, d < 16) → sp_dig l = sp_dig k → l = k
  | [], [], _, _, _, _ => rfl
  | [], _ :: _, h, _, _, _ => by cases h
  | _ :: _, [], h, _, _, _ => by cases h
  | a :: l, b :: k, h, h1, h2, e => by
    have ha := h1 a List.mem_cons_self
    have hb := h2 b List.mem_cons_self
    unfold sp_dig at e
    have e1 : a = b := by omega
    have e2 : sp_dig l = sp_dig k := by omega
    rw [e1, sp_dig_inj (by simpa using h) (fun x hx => h1 x (List.mem_cons_of_mem _ hx)) (fun x hx => h2 x (List.mem_cons_of_mem _ hx)) e2]
theorem sp_dig32 {l : List Nat} (hl : l.length ≤ 8) (h : ∀ d ∈ l, d < 16) : sp_dig l < 4294967296 := by
  have h1 := sp_dig_lt h
  have h2 : 16 ^ l.length ≤ 16 ^ 8 := Nat.pow_le_pow_right (by decide) hl
  have h3 : 16 ^ 8 = 4294967296 := by decide
  omega
theorem sp_enc_lt {l : List Nat} (hl : l.length ≤ 8) (h : ∀ d ∈ l, d < 16) : sp_enc l < 2 ^ 36 := by
  have := sp_dig32 hl h
  unfold sp_enc
  omega
theorem sp_enc_inj {l k : List Nat} (hl : l.length ≤ 8) (h : ∀ d ∈ l, d < 16) (kl : k.length ≤ 8) (h2 : ∀ d ∈ k, d < 16) (e : sp_enc l = sp_enc k) : l = k := by
  have h3 := sp_dig32 hl h
  have h4 := sp_dig32 kl h2
  unfold sp_enc at e
  exact sp_dig_inj (by omega) h h2 (by omega)
theorem sp_lN_m2 {n : Nat} (h : n < 2 ^ 62) : lN n ≠ -2 := by
  intro e
  have h1 := pk_lT (n := n) (by omega)
  rw [e] at h1
  have h2 : (-2 : Int64).toInt = -2 := by decide
  omega
theorem sp_tv_inj {x y : Option (List Nat)} (hx : sp_wt x) (hy : sp_wt y) : sp_tv x = sp_tv y ↔ x = y := by
  refine ⟨fun e => ?_, fun e => by rw [e]⟩
  cases x with
  | none =>
    cases y with
    | none => rfl
    | some l =>
      have h := hy l rfl
      exact absurd e.symm (sp_lN_m2 (Nat.lt_of_lt_of_le (sp_enc_lt h.1 h.2) (by decide)))
  | some l =>
    have h := hx l rfl
    cases y with
    | none => exact absurd e (sp_lN_m2 (Nat.lt_of_lt_of_le (sp_enc_lt h.1 h.2) (by decide)))
    | some k =>
      have h2 := hy k rfl
      have a1 := sp_enc_lt h.1 h.2
      have a2 := sp_enc_lt h2.1 h2.2
      have e2 := (pk_lEQ (Nat.lt_of_lt_of_le a1 (by decide)) (Nat.lt_of_lt_of_le a2 (by decide))).mp e
      rw [sp_enc_inj h.1 h.2 h2.1 h2.2 e2]
theorem sp_tv_cmp {x y : Option (List Nat)} (hx : sp_wt x) (hy : sp_wt y) (q : lg_cmp (sp_tv x) (sp_tv y) = 0) : x = y := (sp_tv_inj hx hy).mp ((lg_cmp_eq _ _).mp q)
theorem sp_tv_cmpn {x y : Option (List Nat)} (q : ¬ lg_cmp (sp_tv x) (sp_tv y) = 0) : x ≠ y := fun e => q ((lg_cmp_eq _ _).mpr (by rw [e]))
theorem sp_eq4_t {a b : sp_T} (h0 : a 0 = b 0) (h1 : a 1 = b 1) (h2 : a 2 = b 2) (h3 : a 3 = b 3) : sp_eq4 a b = true := by
  unfold sp_eq4
  simp [h0, h1, h2, h3]
theorem sp_eq4_f {a b : sp_T} (k : Nat) (hk : k < 4) (h : a k ≠ b k) : sp_eq4 a b = false := by
  unfold sp_eq4
  rw [decide_eq_false_iff_not]
  rintro ⟨h0, h1, h2, h3⟩
  match k, hk with
  | 0, _ => exact h h0
  | 1, _ => exact h h1
  | 2, _ => exact h h2
  | 3, _ => exact h h3
theorem xl_at {h : xm_H} {q : Nat} {e c : xm_C} (hq : h[q]? = some e) : (h.set q c)[q]? = some c := List.getElem?_set_self (List.getElem?_eq_some_iff.mp hq).1
theorem xl_ne {h : xm_H} {q k : Nat} {c : xm_C} (hk : q ≠ k) : (h.set q c)[k]? = h[k]? := List.getElem?_set_ne hk
/-- nothing has changed but the cells of S -/
def xl_fr (S : Nat → Prop) (h h' : xm_H) : Prop := h'.length = h.length ∧ ∀ k, ¬ S k → h'[k]? = h[k]?
theorem xl_rf {S : Nat → Prop} {h : xm_H} : xl_fr S h h := ⟨rfl, fun _ _ => rfl⟩
theorem xl_tr {S : Nat → Prop} {h h1 h2 : xm_H} (a : xl_fr S h h1) (b : xl_fr S h1 h2) : xl_fr S h h2 := ⟨b.1.trans a.1, fun k hk => (b.2 k hk).trans (a.2 k hk)⟩
theorem xl_set {S : Nat → Prop} {h : xm_H} {q : Nat} {c : xm_C} (hq : S q) : xl_fr S h (h.set q c) := ⟨List.length_set, fun k hk => xl_ne (fun e => hk (e ▸ hq))⟩
theorem xl_mono {S S' : Nat → Prop} {h h' : xm_H} (a : xl_fr S h h') (hs : ∀ k, S k → S' k) : xl_fr S' h h' := ⟨a.1, fun k hk => a.2 k (fun z => hk (hs k z))⟩
theorem ch_H_go {h h' : xm_H} {H : sp_H} (hH : ch_H h H) (hk : ∀ k, 1 ≤ k → k ≤ 5 → h'[k]? = h[k]?) : ch_H h' H := by
  obtain ⟨⟨h0, h1⟩, ⟨T, h2, g2⟩, ⟨P, h3, g3⟩, ⟨P', h4, g4⟩, ⟨R, h5, g5⟩⟩ := hH
  exact ⟨⟨h0, (hk 1 (by decide) (by decide)).trans h1⟩, ⟨T, (hk 2 (by decide) (by decide)).trans h2, g2⟩, ⟨P, (hk 3 (by decide) (by decide)).trans h3, g3⟩, ⟨P', (hk 4 (by decide) (by decide)).trans h4, g4⟩, ⟨R, (hk 5 (by decide) (by decide)).trans h5, g5⟩⟩
theorem ch_H_set {h : xm_H} {H : sp_H} {q : Nat} {c : xm_C} (hq : 5 < q) (hH : ch_H h H) : ch_H (h.set q c) H := ch_H_go hH (fun k _ h5 => xl_ne (by omega))
theorem ch_R_go {h h' : xm_H} {a : Nat} {R : sp_R} (hR : ch_R h a R) (hk : ∀ k, a ≤ k → k ≤ a + 3 → h'[k]? = h[k]?) : ch_R h' a R := by
  obtain ⟨h0, h1, ⟨t, h2, g2⟩, ⟨w, h3, g3⟩, ⟨x, h4, g4⟩⟩ := hR
  exact ⟨h0, (hk a (by omega) (by omega)).trans h1, ⟨t, (hk _ (by omega) (by omega)).trans h2, g2⟩, ⟨w, (hk _ (by omega) (by omega)).trans h3, g3⟩, ⟨x, (hk _ (by omega) (by omega)).trans h4, g4⟩⟩
theorem sp_u4 (F w : Nat → Int64) : ∀ j, j < 4 → vp_updL (vp_updL (vp_updL (vp_updL w (nI 0).toNatClampNeg (F 0)) (nI 1).toNatClampNeg (F 1)) (nI 2).toNatClampNeg (F 2)) (nI 3).toNatClampNeg (F 3) j = F j := by
  intro j hj
  rw [nI_clamp (n := 0) (by decide), nI_clamp (n := 1) (by decide), nI_clamp (n := 2) (by decide), nI_clamp (n := 3) (by decide)]
  match j, hj with
  | 0, _ => rfl
  | 1, _ => rfl
  | 2, _ => rfl
  | 3, _ => rfl
theorem c_H_hasSnapshot {L : Nat} {xs : Nat → Int32} {d : Nat} {h : xm_H} {H : sp_H} {Q : xm_Q} {c : Option Nat} {q : Nat} {w : Nat → Int64} {t : sp_T} (hH : ch_H h H) (hc : sp_ok (sp_n H) c) (hw : h[q]? = some (.inl (.long, 4, .inr (.inl w)))) (hw2 : ∀ j, j < 4 → w j = sp_tv (t j)) (hx : ∀ f, sp_wt (sp_of H c f)) (ht : ∀ f, f < 4 → sp_wt (t f)) (hQ : Q (some (.int (sp_bi (sp_eq4 (sp_of H c) t)))) h) : xm_call L xs (d + 3) m_H_hasSnapshot [.ref 1, .int (sp_vi c), .ref q] h Q := by
  refine x_call (lo := [.ref 1, .int (sp_vi c), .ref q, .float 0]) (Nat.le_of_ble_eq_true rfl) rfl ?_
  refine x_iconst (v := nI 0) (pc' := 1) d_H_hasSnapshot_0 rfl (by decide) ?_
  refine x_istore_n (lo' := [.ref 1, .int (sp_vi c), .ref q, .int (nI 0)]) (pc' := 2) d_H_hasSnapshot_1 rfl (Nat.le_of_ble_eq_true rfl) rfl ?_
  refine x_iload_n (pc' := 3) d_H_hasSnapshot_2 rfl rfl ?_
  refine x_iconst (v := nI 4) (pc' := 4) d_H_hasSnapshot_3 rfl (by decide) ?_
  refine x_icmpge (t := 28) (pc' := 7) d_H_hasSnapshot_4 rfl rfl (fun q => absurd q (nI_ge (by decide) (by decide))) (fun _ => ?_)
  refine x_aload_n (pc' := 8) d_H_hasSnapshot_7 rfl rfl ?_
  refine x_iload_n (pc' := 9) d_H_hasSnapshot_8 rfl rfl ?_
  refine x_iload_n (pc' := 10) d_H_hasSnapshot_9 rfl rfl ?_
  refine x_virtual (a := 1) (as := [.int (sp_vi c), .int (nI 0)]) (r := []) (v := (some (.long (sp_tv (sp_of H c 0))))) (h' := h) (st' := [.long (sp_tv (sp_of H c 0))]) (c' := 0) (s' := 0) (pc' := 13) d_H_hasSnapshot_10 rfl c_H_35 hH.1.2 rfl rfl (Nat.le_of_ble_eq_true rfl) (Nat.le_of_ble_eq_true rfl) (Nat.le_of_ble_eq_true rfl) (fun Q' hq => c_H_textOf hH hc (by decide) hq) rfl rfl rfl ?_
  refine x_aload_n (pc' := 14) d_H_hasSnapshot_13 rfl rfl ?_
  refine x_iload_n (pc' := 15) d_H_hasSnapshot_14 rfl rfl ?_
  refine x_laload (v := sp_tv (t 0)) (pc' := 16) d_H_hasSnapshot_15 rfl hw (vp_in_nI (by decide) (by decide)) ((congrArg w (nI_clamp (by decide))).trans (hw2 0 (by decide))) ?_
  refine x_lcmp (z := lg_cmp (sp_tv (sp_of H c 0)) (sp_tv (t 0))) (pc' := 17) d_H_hasSnapshot_16 rfl rfl ?_
  refine x_ifeq (t := 22) (pc' := 20) d_H_hasSnapshot_17 rfl rfl (fun q0 => ?_) (fun q0 => ?_)
  · refine x_iinc (y := nI 1) (lo' := [.ref 1, .int (sp_vi c), .ref q, .int (nI 1)]) (pc' := 25) d_H_hasSnapshot_22 rfl rfl (sp_nI_inc 0) rfl ?_
    refine x_goto (t := 2) d_H_hasSnapshot_25 rfl ?_
    refine x_iload_n (pc' := 3) d_H_hasSnapshot_2 rfl rfl ?_
    refine x_iconst (v := nI 4) (pc' := 4) d_H_hasSnapshot_3 rfl (by decide) ?_
    refine x_icmpge (t := 28) (pc' := 7) d_H_hasSnapshot_4 rfl rfl (fun q => absurd q (nI_ge (by decide) (by decide))) (fun _ => ?_)
    refine x_aload_n (pc' := 8) d_H_hasSnapshot_7 rfl rfl ?_
    refine x_iload_n (pc' := 9) d_H_hasSnapshot_8 rfl rfl ?_
    refine x_iload_n (pc' := 10) d_H_hasSnapshot_9 rfl rfl ?_
    refine x_virtual (a := 1) (as := [.int (sp_vi c), .int (nI 1)]) (r := []) (v := (some (.long (sp_tv (sp_of H c 1))))) (h' := h) (st' := [.long (sp_tv (sp_of H c 1))]) (c' := 0) (s' := 0) (pc' := 13) d_H_hasSnapshot_10 rfl c_H_35 hH.1.2 rfl rfl (Nat.le_of_ble_eq_true rfl) (Nat.le_of_ble_eq_true rfl) (Nat.le_of_ble_eq_true rfl) (fun Q' hq => c_H_textOf hH hc (by decide) hq) rfl rfl rfl ?_
    refine x_aload_n (pc' := 14) d_H_hasSnapshot_13 rfl rfl ?_
    refine x_iload_n (pc' := 15) d_H_hasSnapshot_14 rfl rfl ?_
    refine x_laload (v := sp_tv (t 1)) (pc' := 16) d_H_hasSnapshot_15 rfl hw (vp_in_nI (by decide) (by decide)) ((congrArg w (nI_clamp (by decide))).trans (hw2 1 (by decide))) ?_
    refine x_lcmp (z := lg_cmp (sp_tv (sp_of H c 1)) (sp_tv (t 1))) (pc' := 17) d_H_hasSnapshot_16 rfl rfl ?_
    refine x_ifeq (t := 22) (pc' := 20) d_H_hasSnapshot_17 rfl rfl (fun q1 => ?_) (fun q1 => ?_)
    · refine x_iinc (y := nI 2) (lo' := [.ref 1, .int (sp_vi c), .ref q, .int (nI 2)]) (pc' := 25) d_H_hasSnapshot_22 rfl rfl (sp_nI_inc 1) rfl ?_
      refine x_goto (t := 2) d_H_hasSnapshot_25 rfl ?_
      refine x_iload_n (pc' := 3) d_H_hasSnapshot_2 rfl rfl ?_
      refine x_iconst (v := nI 4) (pc' := 4) d_H_hasSnapshot_3 rfl (by decide) ?_
      refine x_icmpge (t := 28) (pc' := 7) d_H_hasSnapshot_4 rfl rfl (fun q => absurd q (nI_ge (by decide) (by decide))) (fun _ => ?_)
      refine x_aload_n (pc' := 8) d_H_hasSnapshot_7 rfl rfl ?_
      refine x_iload_n (pc' := 9) d_H_hasSnapshot_8 rfl rfl ?_
      refine x_iload_n (pc' := 10) d_H_hasSnapshot_9 rfl rfl ?_
      refine x_virtual (a := 1) (as := [.int (sp_vi c), .int (nI 2)]) (r := []) (v := (some (.long (sp_tv (sp_of H c 2))))) (h' := h) (st' := [.long (sp_tv (sp_of H c 2))]) (c' := 0) (s' := 0) (pc' := 13) d_H_hasSnapshot_10 rfl c_H_35 hH.1.2 rfl rfl (Nat.le_of_ble_eq_true rfl) (Nat.le_of_ble_eq_true rfl) (Nat.le_of_ble_eq_true rfl) (fun Q' hq => c_H_textOf hH hc (by decide) hq) rfl rfl rfl ?_
      refine x_aload_n (pc' := 14) d_H_hasSnapshot_13 rfl rfl ?_
      refine x_iload_n (pc' := 15) d_H_hasSnapshot_14 rfl rfl ?_
      refine x_laload (v := sp_tv (t 2)) (pc' := 16) d_H_hasSnapshot_15 rfl hw (vp_in_nI (by decide) (by decide)) ((congrArg w (nI_clamp (by decide))).trans (hw2 2 (by decide))) ?_
      refine x_lcmp (z := lg_cmp (sp_tv (sp_of H c 2)) (sp_tv (t 2))) (pc' := 17) d_H_hasSnapshot_16 rfl rfl ?_
      refine x_ifeq (t := 22) (pc' := 20) d_H_hasSnapshot_17 rfl rfl (fun q2 => ?_) (fun q2 => ?_)
      · refine x_iinc (y := nI 3) (lo' := [.ref 1, .int (sp_vi c), .ref q, .int (nI 3)]) (pc' := 25) d_H_hasSnapshot_22 rfl rfl (sp_nI_inc 2) rfl ?_
        refine x_goto (t := 2) d_H_hasSnapshot_25 rfl ?_
        refine x_iload_n (pc' := 3) d_H_hasSnapshot_2 rfl rfl ?_
        refine x_iconst (v := nI 4) (pc' := 4) d_H_hasSnapshot_3 rfl (by decide) ?_
        refine x_icmpge (t := 28) (pc' := 7) d_H_hasSnapshot_4 rfl rfl (fun q => absurd q (nI_ge (by decide) (by decide))) (fun _ => ?_)
        refine x_aload_n (pc' := 8) d_H_hasSnapshot_7 rfl rfl ?_
        refine x_iload_n (pc' := 9) d_H_hasSnapshot_8 rfl rfl ?_
        refine x_iload_n (pc' := 10) d_H_hasSnapshot_9 rfl rfl ?_
        refine x_virtual (a := 1) (as := [.int (sp_vi c), .int (nI 3)]) (r := []) (v := (some (.long (sp_tv (sp_of H c 3))))) (h' := h) (st' := [.long (sp_tv (sp_of H c 3))]) (c' := 0) (s' := 0) (pc' := 13) d_H_hasSnapshot_10 rfl c_H_35 hH.1.2 rfl rfl (Nat.le_of_ble_eq_true rfl) (Nat.le_of_ble_eq_true rfl) (Nat.le_of_ble_eq_true rfl) (fun Q' hq => c_H_textOf hH hc (by decide) hq) rfl rfl rfl ?_
        refine x_aload_n (pc' := 14) d_H_hasSnapshot_13 rfl rfl ?_
        refine x_iload_n (pc' := 15) d_H_hasSnapshot_14 rfl rfl ?_
        refine x_laload (v := sp_tv (t 3)) (pc' := 16) d_H_hasSnapshot_15 rfl hw (vp_in_nI (by decide) (by decide)) ((congrArg w (nI_clamp (by decide))).trans (hw2 3 (by decide))) ?_
        refine x_lcmp (z := lg_cmp (sp_tv (sp_of H c 3)) (sp_tv (t 3))) (pc' := 17) d_H_hasSnapshot_16 rfl rfl ?_
        refine x_ifeq (t := 22) (pc' := 20) d_H_hasSnapshot_17 rfl rfl (fun q3 => ?_) (fun q3 => ?_)
        · refine x_iinc (y := nI 4) (lo' := [.ref 1, .int (sp_vi c), .ref q, .int (nI 4)]) (pc' := 25) d_H_hasSnapshot_22 rfl rfl (sp_nI_inc 3) rfl ?_
          refine x_goto (t := 2) d_H_hasSnapshot_25 rfl ?_
          refine x_iload_n (pc' := 3) d_H_hasSnapshot_2 rfl rfl ?_
          refine x_iconst (v := nI 4) (pc' := 4) d_H_hasSnapshot_3 rfl (by decide) ?_
          refine x_icmpge (t := 28) (pc' := 7) d_H_hasSnapshot_4 rfl rfl (fun _ => ?_) (fun q => absurd (nI_le (by decide) (by decide)) q)
          refine x_iconst (v := 1) (pc' := 29) d_H_hasSnapshot_28 rfl (by decide) ?_
          exact x_ireturn d_H_hasSnapshot_29 rfl rfl (x_q (by rw [sp_eq4_t (sp_tv_cmp (hx _) (ht _ (by decide)) q0) (sp_tv_cmp (hx _) (ht _ (by decide)) q1) (sp_tv_cmp (hx _) (ht _ (by decide)) q2) (sp_tv_cmp (hx _) (ht _ (by decide)) q3)]; rfl) hQ)
        · refine x_iconst (v := 0) (pc' := 21) d_H_hasSnapshot_20 rfl (by decide) ?_
          exact x_ireturn d_H_hasSnapshot_21 rfl rfl (x_q (by rw [sp_eq4_f 3 (by decide) (sp_tv_cmpn q3)]; rfl) hQ)
      · refine x_iconst (v := 0) (pc' := 21) d_H_hasSnapshot_20 rfl (by decide) ?_
        exact x_ireturn d_H_hasSnapshot_21 rfl rfl (x_q (by rw [sp_eq4_f 2 (by decide) (sp_tv_cmpn q2)]; rfl) hQ)
    · refine x_iconst (v := 0) (pc' := 21) d_H_hasSnapshot_20 rfl (by decide) ?_
      exact x_ireturn d_H_hasSnapshot_21 rfl rfl (x_q (by rw [sp_eq4_f 1 (by decide) (sp_tv_cmpn q1)]; rfl) hQ)
  · refine x_iconst (v := 0) (pc' := 21) d_H_hasSnapshot_20 rfl (by decide) ?_
    exact x_ireturn d_H_hasSnapshot_21 rfl rfl (x_q (by rw [sp_eq4_f 0 (by decide) (sp_tv_cmpn q0)]; rfl) hQ)
theorem c_H_copySnapshot {L : Nat} {xs : Nat → Int32} {d : Nat} {h : xm_H} {H : sp_H} {Q : xm_Q} {c : Option Nat} {q : Nat} {w : Nat → Int64} (hH : ch_H h H) (hc : sp_ok (sp_n H) c) (hq5 : 5 < q) (hw : h[q]? = some (.inl (.long, 4, .inr (.inl w)))) (hQ : ∀ w' : Nat → Int64, (∀ j, j < 4 → w' j = sp_tv (sp_of H c j)) → Q none (h.set q (.inl (.long, 4, .inr (.inl w'))))) : xm_call L xs (d + 3) m_H_copySnapshot [.ref 1, .int (sp_vi c), .ref q] h Q := by
  refine x_call (lo := [.ref 1, .int (sp_vi c), .ref q, .float 0]) (Nat.le_of_ble_eq_true rfl) rfl ?_
  refine x_iconst (v := nI 0) (pc' := 1) d_H_copySnapshot_0 rfl (by decide) ?_
  refine x_istore_n (lo' := [.ref 1, .int (sp_vi c), .ref q, .int (nI 0)]) (pc' := 2) d_H_copySnapshot_1 rfl (Nat.le_of_ble_eq_true rfl) rfl ?_
  refine x_iload_n (pc' := 3) d_H_copySnapshot_2 rfl rfl ?_
  refine x_iconst (v := nI 4) (pc' := 4) d_H_copySnapshot_3 rfl (by decide) ?_
  refine x_icmpge (t := 22) (pc' := 7) d_H_copySnapshot_4 rfl rfl (fun q => absurd q (nI_ge (by decide) (by decide))) (fun _ => ?_)
  refine x_aload_n (pc' := 8) d_H_copySnapshot_7 rfl rfl ?_
  refine x_iload_n (pc' := 9) d_H_copySnapshot_8 rfl rfl ?_
  refine x_aload_n (pc' := 10) d_H_copySnapshot_9 rfl rfl ?_
  refine x_iload_n (pc' := 11) d_H_copySnapshot_10 rfl rfl ?_
  refine x_iload_n (pc' := 12) d_H_copySnapshot_11 rfl rfl ?_
  refine x_virtual (a := 1) (as := [.int (sp_vi c), .int (nI 0)]) (r := [.int (nI 0), .ref q]) (v := (some (.long (sp_tv (sp_of H c 0))))) (h' := h) (st' := [.long (sp_tv (sp_of H c 0)), .int (nI 0), .ref q]) (c' := 0) (s' := 0) (pc' := 15) d_H_copySnapshot_12 rfl c_H_35 hH.1.2 rfl rfl (Nat.le_of_ble_eq_true rfl) (Nat.le_of_ble_eq_true rfl) (Nat.le_of_ble_eq_true rfl) (fun Q' hq => c_H_textOf hH hc (by decide) hq) rfl rfl rfl ?_
  refine x_lastore (h' := (h.set q (.inl (.long, 4, .inr (.inl (vp_updL w (nI 0).toNatClampNeg (sp_tv (sp_of H c 0)))))))) (pc' := 16) d_H_copySnapshot_15 rfl hw (vp_in_nI (by decide) (by decide)) rfl ?_
  refine x_iinc (y := nI 1) (lo' := [.ref 1, .int (sp_vi c), .ref q, .int (nI 1)]) (pc' := 19) d_H_copySnapshot_16 rfl rfl (sp_nI_inc 0) rfl ?_
  refine x_goto (t := 2) d_H_copySnapshot_19 rfl ?_
  refine x_iload_n (pc' := 3) d_H_copySnapshot_2 rfl rfl ?_
  refine x_iconst (v := nI 4) (pc' := 4) d_H_copySnapshot_3 rfl (by decide) ?_
  refine x_icmpge (t := 22) (pc' := 7) d_H_copySnapshot_4 rfl rfl (fun q => absurd q (nI_ge (by decide) (by decide))) (fun _ => ?_)
  refine x_aload_n (pc' := 8) d_H_copySnapshot_7 rfl rfl ?_
  refine x_iload_n (pc' := 9) d_H_copySnapshot_8 rfl rfl ?_
  refine x_aload_n (pc' := 10) d_H_copySnapshot_9 rfl rfl ?_
  refine x_iload_n (pc' := 11) d_H_copySnapshot_10 rfl rfl ?_
  refine x_iload_n (pc' := 12) d_H_copySnapshot_11 rfl rfl ?_
  refine x_virtual (a := 1) (as := [.int (sp_vi c), .int (nI 1)]) (r := [.int (nI 1), .ref q]) (v := (some (.long (sp_tv (sp_of H c 1))))) (h' := (h.set q (.inl (.long, 4, .inr (.inl (vp_updL w (nI 0).toNatClampNeg (sp_tv (sp_of H c 0)))))))) (st' := [.long (sp_tv (sp_of H c 1)), .int (nI 1), .ref q]) (c' := 0) (s' := 0) (pc' := 15) d_H_copySnapshot_12 rfl c_H_35 (ch_H_set hq5 hH).1.2 rfl rfl (Nat.le_of_ble_eq_true rfl) (Nat.le_of_ble_eq_true rfl) (Nat.le_of_ble_eq_true rfl) (fun Q' hq => c_H_textOf (ch_H_set hq5 hH) hc (by decide) hq) rfl rfl rfl ?_
  refine x_lastore (h' := (h.set q (.inl (.long, 4, .inr (.inl (vp_updL (vp_updL w (nI 0).toNatClampNeg (sp_tv (sp_of H c 0))) (nI 1).toNatClampNeg (sp_tv (sp_of H c 1)))))))) (pc' := 16) d_H_copySnapshot_15 rfl (xl_at hw) (vp_in_nI (by decide) (by decide)) (List.set_set ..) ?_
  refine x_iinc (y := nI 2) (lo' := [.ref 1, .int (sp_vi c), .ref q, .int (nI 2)]) (pc' := 19) d_H_copySnapshot_16 rfl rfl (sp_nI_inc 1) rfl ?_
  refine x_goto (t := 2) d_H_copySnapshot_19 rfl ?_
  refine x_iload_n (pc' := 3) d_H_copySnapshot_2 rfl rfl ?_
  refine x_iconst (v := nI 4) (pc' := 4) d_H_copySnapshot_3 rfl (by decide) ?_
  refine x_icmpge (t := 22) (pc' := 7) d_H_copySnapshot_4 rfl rfl (fun q => absurd q (nI_ge (by decide) (by decide))) (fun _ => ?_)
  refine x_aload_n (pc' := 8) d_H_copySnapshot_7 rfl rfl ?_
  refine x_iload_n (pc' := 9) d_H_copySnapshot_8 rfl rfl ?_
  refine x_aload_n (pc' := 10) d_H_copySnapshot_9 rfl rfl ?_
  refine x_iload_n (pc' := 11) d_H_copySnapshot_10 rfl rfl ?_
  refine x_iload_n (pc' := 12) d_H_copySnapshot_11 rfl rfl ?_
  refine x_virtual (a := 1) (as := [.int (sp_vi c), .int (nI 2)]) (r := [.int (nI 2), .ref q]) (v := (some (.long (sp_tv (sp_of H c 2))))) (h' := (h.set q (.inl (.long, 4, .inr (.inl (vp_updL (vp_updL w (nI 0).toNatClampNeg (sp_tv (sp_of H c 0))) (nI 1).toNatClampNeg (sp_tv (sp_of H c 1)))))))) (st' := [.long (sp_tv (sp_of H c 2)), .int (nI 2), .ref q]) (c' := 0) (s' := 0) (pc' := 15) d_H_copySnapshot_12 rfl c_H_35 (ch_H_set hq5 hH).1.2 rfl rfl (Nat.le_of_ble_eq_true rfl) (Nat.le_of_ble_eq_true rfl) (Nat.le_of_ble_eq_true rfl) (fun Q' hq => c_H_textOf (ch_H_set hq5 hH) hc (by decide) hq) rfl rfl rfl ?_
  refine x_lastore (h' := (h.set q (.inl (.long, 4, .inr (.inl (vp_updL (vp_updL (vp_updL w (nI 0).toNatClampNeg (sp_tv (sp_of H c 0))) (nI 1).toNatClampNeg (sp_tv (sp_of H c 1))) (nI 2).toNatClampNeg (sp_tv (sp_of H c 2)))))))) (pc' := 16) d_H_copySnapshot_15 rfl (xl_at hw) (vp_in_nI (by decide) (by decide)) (List.set_set ..) ?_
  refine x_iinc (y := nI 3) (lo' := [.ref 1, .int (sp_vi c), .ref q, .int (nI 3)]) (pc' := 19) d_H_copySnapshot_16 rfl rfl (sp_nI_inc 2) rfl ?_
  refine x_goto (t := 2) d_H_copySnapshot_19 rfl ?_
  refine x_iload_n (pc' := 3) d_H_copySnapshot_2 rfl rfl ?_
  refine x_iconst (v := nI 4) (pc' := 4) d_H_copySnapshot_3 rfl (by decide) ?_
  refine x_icmpge (t := 22) (pc' := 7) d_H_copySnapshot_4 rfl rfl (fun q => absurd q (nI_ge (by decide) (by decide))) (fun _ => ?_)
  refine x_aload_n (pc' := 8) d_H_copySnapshot_7 rfl rfl ?_
  refine x_iload_n (pc' := 9) d_H_copySnapshot_8 rfl rfl ?_
  refine x_aload_n (pc' := 10) d_H_copySnapshot_9 rfl rfl ?_
  refine x_iload_n (pc' := 11) d_H_copySnapshot_10 rfl rfl ?_
  refine x_iload_n (pc' := 12) d_H_copySnapshot_11 rfl rfl ?_
  refine x_virtual (a := 1) (as := [.int (sp_vi c), .int (nI 3)]) (r := [.int (nI 3), .ref q]) (v := (some (.long (sp_tv (sp_of H c 3))))) (h' := (h.set q (.inl (.long, 4, .inr (.inl (vp_updL (vp_updL (vp_updL w (nI 0).toNatClampNeg (sp_tv (sp_of H c 0))) (nI 1).toNatClampNeg (sp_tv (sp_of H c 1))) (nI 2).toNatClampNeg (sp_tv (sp_of H c 2)))))))) (st' := [.long (sp_tv (sp_of H c 3)), .int (nI 3), .ref q]) (c' := 0) (s' := 0) (pc' := 15) d_H_copySnapshot_12 rfl c_H_35 (ch_H_set hq5 hH).1.2 rfl rfl (Nat.le_of_ble_eq_true rfl) (Nat.le_of_ble_eq_true rfl) (Nat.le_of_ble_eq_true rfl) (fun Q' hq => c_H_textOf (ch_H_set hq5 hH) hc (by decide) hq) rfl rfl rfl ?_
  refine x_lastore (h' := (h.set q (.inl (.long, 4, .inr (.inl (vp_updL (vp_updL (vp_updL (vp_updL w (nI 0).toNatClampNeg (sp_tv (sp_of H c 0))) (nI 1).toNatClampNeg (sp_tv (sp_of H c 1))) (nI 2).toNatClampNeg (sp_tv (sp_of H c 2))) (nI 3).toNatClampNeg (sp_tv (sp_of H c 3)))))))) (pc' := 16) d_H_copySnapshot_15 rfl (xl_at hw) (vp_in_nI (by decide) (by decide)) (List.set_set ..) ?_
  refine x_iinc (y := nI 4) (lo' := [.ref 1, .int (sp_vi c), .ref q, .int (nI 4)]) (pc' := 19) d_H_copySnapshot_16 rfl rfl (sp_nI_inc 3) rfl ?_
  refine x_goto (t := 2) d_H_copySnapshot_19 rfl ?_
  refine x_iload_n (pc' := 3) d_H_copySnapshot_2 rfl rfl ?_
  refine x_iconst (v := nI 4) (pc' := 4) d_H_copySnapshot_3 rfl (by decide) ?_
  refine x_icmpge (t := 22) (pc' := 7) d_H_copySnapshot_4 rfl rfl (fun _ => ?_) (fun q => absurd (nI_le (by decide) (by decide)) q)
  exact x_return d_H_copySnapshot_22 rfl (hQ _ (sp_u4 (fun j => sp_tv (sp_of H c j)) w))
theorem c_H_cutBackTo {L : Nat} {xs : Nat → Int32} {d : Nat} {h : xm_H} {n k : Nat} {Q : xm_Q} (hH : h[1]? = some (.inr (0, [.ref 2, .ref 3, .ref 4, .ref 5, .int (nI n)]))) (hQ : Q none (h.set 1 (.inr (0, [.ref 2, .ref 3, .ref 4, .ref 5, .int (nI k)])))) : xm_call L xs (d + 1) m_H_cutBackTo [.ref 1, .int (nI k)] h Q := by
  refine x_call (lo := [.ref 1, .int (nI k)]) (Nat.le_of_ble_eq_true rfl) rfl ?_
  refine x_aload_n (pc' := 1) d_H_cutBackTo_0 rfl rfl ?_
  refine x_iload_n (pc' := 2) d_H_cutBackTo_1 rfl rfl ?_
  refine x_putfield (ci := 0) (i := 4) (h' := (h.set 1 (.inr (0, [.ref 2, .ref 3, .ref 4, .ref 5, .int (nI k)])))) (pc' := 5) d_H_cutBackTo_2 rfl (p_H_25 _ rfl) hH (Nat.le_of_ble_eq_true rfl) rfl rfl rfl ?_
  exact x_return d_H_cutBackTo_5 rfl hQ
end
section
/-! Contracts of add, isReachedByLater, baseOf. (Printed by c_hist3.py.) -/
theorem c_H_addFull {L : Nat} {xs : Nat → Int32} {d : Nat} {h : xm_H} {H : sp_H} {Q : xm_Q} {q : Nat} {x y : Int32} (hH : ch_H h H) (hn : 40 ≤ sp_n H) (hQ : Q (some (.int (-6))) h) : xm_call L xs (d + 1) m_H_add [.ref 1, .ref q, .int x, .int y] h Q := by
  refine x_call (lo := [.ref 1, .ref q, .int x, .int y, .float 0, .float 0]) (Nat.le_of_ble_eq_true rfl) rfl ?_
  refine x_aload_n (pc' := 1) d_H_add_0 rfl rfl ?_
  refine x_getfield (ci := 0) (i := 4) (v := .int (nI (sp_n H))) (pc' := 4) d_H_add_1 rfl g_H_25 hH.1.2 rfl ?_
  refine x_bipush (v := nI 40) (pc' := 6) d_H_add_4 rfl (by decide) ?_
  refine x_icmplt (t := 12) (pc' := 9) d_H_add_6 rfl rfl (fun q => absurd q (nI_nlt hn (by have := hH.1.1; omega))) (fun _ => ?_)
  refine x_bipush (v := (-6)) (pc' := 11) d_H_add_9 rfl (by decide) ?_
  exact x_ireturn d_H_add_11 rfl rfl hQ
set_option maxHeartbeats 4000000 in
theorem c_H_add {L : Nat} {xs : Nat → Int32} {d : Nat} {h : xm_H} {H : sp_H} {Q : xm_Q} {q : Nat} {w : Nat → Int64} {t : sp_T} {p1 p2 : Option Nat} (hH : ch_H h H) (hn0 : sp_n H < 40) (hq5 : 5 < q) (hw : h[q]? = some (.inl (.long, 4, .inr (.inl w)))) (hw2 : ∀ j, j < 4 → w j = sp_tv (t j)) (hp1 : sp_ok (sp_n H) p1) (hp2 : sp_ok (sp_n H) p2) (b1 : sp_ro H p1 < 2 ^ 64) (b2 : sp_ro H p2 < 2 ^ 64)
    (hQ : ∀ h' : xm_H, ch_H h' (sp_add H t p1 p2) → xl_fr (fun k => 1 ≤ k ∧ k ≤ 5) h h' → Q (some (.int (nI (sp_n H)))) h') : xm_call L xs (d + 3) m_H_add [.ref 1, .ref q, .int (sp_vi p1), .int (sp_vi p2)] h Q := by
  obtain ⟨⟨g0, g1⟩, ⟨T, g2, e2⟩, ⟨P, g3, e3⟩, ⟨P', g4, e4⟩, ⟨R, g5, e5⟩⟩ := hH
  obtain ⟨n, hnn⟩ : ∃ n, n = sp_n H := ⟨_, rfl⟩
  rw [← hnn] at g0 g1 e2 e3 e4 e5 hn0 hp1 hp2
  have hn : n < 40 := hn0
  have b0 : 2 ^ n < 2 ^ 64 := Nat.pow_lt_pow_right (by decide) (by omega)
  have c4 : ∀ k, k < 4 → (nI (n * 4 + k)).toNatClampNeg = n * 4 + k := fun k hk => nI_clamp (by omega)
  have cn : (nI n).toNatClampNeg = n := nI_clamp (by omega)
  have hH6 : ch_H (((h.set 2 (.inl (.long, 160, .inr (.inl (vp_updL (vp_updL (vp_updL (vp_updL T (nI (n * 4 + 0)).toNatClampNeg (sp_tv (t 0))) (nI (n * 4 + 1)).toNatClampNeg (sp_tv (t 1))) (nI (n * 4 + 2)).toNatClampNeg (sp_tv (t 2))) (nI (n * 4 + 3)).toNatClampNeg (sp_tv (t 3))))))).set 3 (.inl (.int, 40, .inl (upd P (nI n).toNatClampNeg (sp_vi p1))))).set 4 (.inl (.int, 40, .inl (upd P' (nI n).toNatClampNeg (sp_vi p2))))) H := by
    refine ⟨⟨by rw [← hnn]; exact g0, ?_⟩, ⟨_, (xl_ne (by decide)).trans ((xl_ne (by decide)).trans (xl_at g2)), fun j hj => ?_⟩, ⟨_, (xl_ne (by decide)).trans (xl_at ((xl_ne (by decide)).trans g3)), fun j hj => ?_⟩, ⟨_, xl_at ((xl_ne (by decide)).trans ((xl_ne (by decide)).trans g4)), fun j hj => ?_⟩, ⟨R, (xl_ne (by decide)).trans ((xl_ne (by decide)).trans ((xl_ne (by decide)).trans g5)), fun j hj => ?_⟩⟩
    · rw [← hnn]
      exact (xl_ne (by decide)).trans ((xl_ne (by decide)).trans ((xl_ne (by decide)).trans g1))
    · rw [← hnn] at hj
      rw [c4 0 (by decide), c4 1 (by decide), c4 2 (by decide), c4 3 (by decide)]
      unfold vp_updL
      rw [if_neg (by omega), if_neg (by omega), if_neg (by omega), if_neg (by omega)]
      exact e2 j hj
    · rw [← hnn] at hj
      rw [cn]
      unfold upd
      rw [if_neg (by omega)]
      exact e3 j hj
    · rw [← hnn] at hj
      rw [cn]
      unfold upd
      rw [if_neg (by omega)]
      exact e4 j hj
    · rw [← hnn] at hj
      exact e5 j hj
  have hfin : ch_H (((((h.set 2 (.inl (.long, 160, .inr (.inl (vp_updL (vp_updL (vp_updL (vp_updL T (nI (n * 4 + 0)).toNatClampNeg (sp_tv (t 0))) (nI (n * 4 + 1)).toNatClampNeg (sp_tv (t 1))) (nI (n * 4 + 2)).toNatClampNeg (sp_tv (t 2))) (nI (n * 4 + 3)).toNatClampNeg (sp_tv (t 3))))))).set 3 (.inl (.int, 40, .inl (upd P (nI n).toNatClampNeg (sp_vi p1))))).set 4 (.inl (.int, 40, .inl (upd P' (nI n).toNatClampNeg (sp_vi p2))))).set 5 (.inl (.long, 40, .inr (.inl (vp_updL R (nI n).toNatClampNeg (lN (2 ^ n ||| sp_ro H p1 ||| sp_ro H p2))))))).set 1 (.inr (0, [.ref 2, .ref 3, .ref 4, .ref 5, .int (nI (n + 1))]))) (sp_add H t p1 p2) := by
    refine ⟨⟨?_, ?_⟩, ⟨_, (xl_ne (by decide)).trans ((xl_ne (by decide)).trans ((xl_ne (by decide)).trans ((xl_ne (by decide)).trans (xl_at g2)))), fun j hj => ?_⟩, ⟨_, (xl_ne (by decide)).trans ((xl_ne (by decide)).trans ((xl_ne (by decide)).trans (xl_at ((xl_ne (by decide)).trans g3)))), fun j hj => ?_⟩, ⟨_, (xl_ne (by decide)).trans ((xl_ne (by decide)).trans (xl_at ((xl_ne (by decide)).trans ((xl_ne (by decide)).trans g4)))), fun j hj => ?_⟩, ⟨_, (xl_ne (by decide)).trans (xl_at ((xl_ne (by decide)).trans ((xl_ne (by decide)).trans ((xl_ne (by decide)).trans g5)))), fun j hj => ?_⟩⟩
    · show sp_n H + 1 ≤ 40
      omega
    · show _ = (some (Sum.inr (0, [.ref 2, .ref 3, .ref 4, .ref 5, .int (nI (sp_n H + 1))])) : Option xm_C)
      rw [← hnn]
      exact xl_at ((xl_ne (by decide)).trans ((xl_ne (by decide)).trans ((xl_ne (by decide)).trans ((xl_ne (by decide)).trans g1))))
    · have hj : j < 4 * (sp_n H + 1) := hj
      show _ = sp_tv (if 4 * sp_n H ≤ j ∧ j < 4 * sp_n H + 4 then t (j - 4 * sp_n H) else sp_tx H j)
      rw [← hnn] at hj ⊢
      rw [c4 0 (by decide), c4 1 (by decide), c4 2 (by decide), c4 3 (by decide)]
      unfold vp_updL
      by_cases h1 : 4 * n ≤ j
      · rw [show (if 4 * n ≤ j ∧ j < 4 * n + 4 then t (j - 4 * n) else sp_tx H j) = t (j - 4 * n) from if_pos ⟨h1, by omega⟩]
        obtain ⟨i, rfl⟩ : ∃ i, j = 4 * n + i := ⟨j - 4 * n, by omega⟩
        have hi : i < 4 := by omega
        rw [Nat.add_sub_cancel_left]
        match i, hi with
        | 0, _ => rw [if_neg (by omega), if_neg (by omega), if_neg (by omega), if_pos (by omega)]
        | 1, _ => rw [if_neg (by omega), if_neg (by omega), if_pos (by omega)]
        | 2, _ => rw [if_neg (by omega), if_pos (by omega)]
        | 3, _ => rw [if_pos (by omega)]
      · rw [show (if 4 * n ≤ j ∧ j < 4 * n + 4 then t (j - 4 * n) else sp_tx H j) = sp_tx H j from if_neg (by omega), if_neg (by omega), if_neg (by omega), if_neg (by omega), if_neg (by omega)]
        exact e2 j (by omega)
    · have hj : j < sp_n H + 1 := hj
      show _ = sp_vi (if j = sp_n H then p1 else sp_p1 H j)
      rw [← hnn] at hj ⊢
      rw [cn]
      unfold upd
      by_cases h1 : j = n
      · rw [if_pos h1, if_pos h1]
      · rw [if_neg h1, if_neg h1]
        exact e3 j (by omega)
    · have hj : j < sp_n H + 1 := hj
      show _ = sp_vi (if j = sp_n H then p2 else sp_p2 H j)
      rw [← hnn] at hj ⊢
      rw [cn]
      unfold upd
      by_cases h1 : j = n
      · rw [if_pos h1, if_pos h1]
      · rw [if_neg h1, if_neg h1]
        exact e4 j (by omega)
    · have hj : j < sp_n H + 1 := hj
      show _ = lN (if j = sp_n H then 2 ^ sp_n H ||| sp_ro H p1 ||| sp_ro H p2 else sp_rr H j)
      rw [← hnn] at hj ⊢
      rw [cn]
      unfold vp_updL
      by_cases h1 : j = n
      · rw [if_pos h1, if_pos h1]
      · rw [if_neg h1, if_neg h1]
        exact e5 j (by omega)
  have hfr : xl_fr (fun k => 1 ≤ k ∧ k ≤ 5) h (((((h.set 2 (.inl (.long, 160, .inr (.inl (vp_updL (vp_updL (vp_updL (vp_updL T (nI (n * 4 + 0)).toNatClampNeg (sp_tv (t 0))) (nI (n * 4 + 1)).toNatClampNeg (sp_tv (t 1))) (nI (n * 4 + 2)).toNatClampNeg (sp_tv (t 2))) (nI (n * 4 + 3)).toNatClampNeg (sp_tv (t 3))))))).set 3 (.inl (.int, 40, .inl (upd P (nI n).toNatClampNeg (sp_vi p1))))).set 4 (.inl (.int, 40, .inl (upd P' (nI n).toNatClampNeg (sp_vi p2))))).set 5 (.inl (.long, 40, .inr (.inl (vp_updL R (nI n).toNatClampNeg (lN (2 ^ n ||| sp_ro H p1 ||| sp_ro H p2))))))).set 1 (.inr (0, [.ref 2, .ref 3, .ref 4, .ref 5, .int (nI (n + 1))]))) := xl_tr (xl_set ⟨by decide, by decide⟩) (xl_tr (xl_set ⟨by decide, by decide⟩) (xl_tr (xl_set ⟨by decide, by decide⟩) (xl_tr (xl_set ⟨by decide, by decide⟩) (xl_set ⟨by decide, by decide⟩))))
  rw [← hnn] at hQ
  rw [hnn] at hp1 hp2
  refine x_call (lo := [.ref 1, .ref q, .int (sp_vi p1), .int (sp_vi p2), .float 0, .float 0]) (Nat.le_of_ble_eq_true rfl) rfl ?_
  refine x_aload_n (pc' := 1) d_H_add_0 rfl rfl ?_
  refine x_getfield (ci := 0) (i := 4) (v := .int (nI n)) (pc' := 4) d_H_add_1 rfl g_H_25 g1 rfl ?_
  refine x_bipush (v := nI 40) (pc' := 6) d_H_add_4 rfl (by decide) ?_
  refine x_icmplt (t := 12) (pc' := 9) d_H_add_6 rfl rfl (fun _ => ?_) (fun q => absurd (nI_lt hn (by decide)) q)
  refine x_aload_n (pc' := 13) d_H_add_12 rfl rfl ?_
  refine x_getfield (ci := 0) (i := 4) (v := .int (nI n)) (pc' := 16) d_H_add_13 rfl g_H_25 g1 rfl ?_
  refine x_istore (lo' := [.ref 1, .ref q, .int (sp_vi p1), .int (sp_vi p2), .int (nI n), .float 0]) (pc' := 18) d_H_add_16 rfl (Nat.le_of_ble_eq_true rfl) rfl ?_
  refine x_iconst (v := nI 0) (pc' := 19) d_H_add_18 rfl (by decide) ?_
  refine x_istore (lo' := [.ref 1, .ref q, .int (sp_vi p1), .int (sp_vi p2), .int (nI n), .int (nI 0)]) (pc' := 21) d_H_add_19 rfl (Nat.le_of_ble_eq_true rfl) rfl ?_
  refine x_iload (pc' := 23) d_H_add_21 rfl rfl ?_
  refine x_iconst (v := nI 4) (pc' := 24) d_H_add_23 rfl (by decide) ?_
  refine x_icmpge (t := 49) (pc' := 27) d_H_add_24 rfl rfl (fun q => absurd q (nI_ge (by decide) (by decide))) (fun _ => ?_)
  refine x_aload_n (pc' := 28) d_H_add_27 rfl rfl ?_
  refine x_getfield (ci := 0) (i := 0) (v := .ref 2) (pc' := 31) d_H_add_28 rfl g_H_9 g1 rfl ?_
  refine x_iload (pc' := 33) d_H_add_31 rfl rfl ?_
  refine x_iconst (v := nI 4) (pc' := 34) d_H_add_33 rfl (by decide) ?_
  refine x_imul (z := nI (n * 4)) (pc' := 35) d_H_add_34 rfl (pk_mul n 4) ?_
  refine x_iload (pc' := 37) d_H_add_35 rfl rfl ?_
  refine x_iadd (z := nI (n * 4 + 0)) (pc' := 38) d_H_add_37 rfl (nI_add _ _) ?_
  refine x_aload_n (pc' := 39) d_H_add_38 rfl rfl ?_
  refine x_iload (pc' := 41) d_H_add_39 rfl rfl ?_
  refine x_laload (v := sp_tv (t 0)) (pc' := 42) d_H_add_41 rfl hw (vp_in_nI (by decide) (by decide)) ((congrArg w (nI_clamp (by decide))).trans (hw2 0 (by decide))) ?_
  refine x_lastore (h' := (h.set 2 (.inl (.long, 160, .inr (.inl (vp_updL T (nI (n * 4 + 0)).toNatClampNeg (sp_tv (t 0)))))))) (pc' := 43) d_H_add_42 rfl g2 (vp_in_nI (by omega) (by decide)) rfl ?_
  refine x_iinc (y := nI 1) (lo' := [.ref 1, .ref q, .int (sp_vi p1), .int (sp_vi p2), .int (nI n), .int (nI 1)]) (pc' := 46) d_H_add_43 rfl rfl (sp_nI_inc 0) rfl ?_
  refine x_goto (t := 21) d_H_add_46 rfl ?_
  refine x_iload (pc' := 23) d_H_add_21 rfl rfl ?_
  refine x_iconst (v := nI 4) (pc' := 24) d_H_add_23 rfl (by decide) ?_
  refine x_icmpge (t := 49) (pc' := 27) d_H_add_24 rfl rfl (fun q => absurd q (nI_ge (by decide) (by decide))) (fun _ => ?_)
  refine x_aload_n (pc' := 28) d_H_add_27 rfl rfl ?_
  refine x_getfield (ci := 0) (i := 0) (v := .ref 2) (pc' := 31) d_H_add_28 rfl g_H_9 ((xl_ne (by decide)).trans (g1)) rfl ?_
  refine x_iload (pc' := 33) d_H_add_31 rfl rfl ?_
  refine x_iconst (v := nI 4) (pc' := 34) d_H_add_33 rfl (by decide) ?_
  refine x_imul (z := nI (n * 4)) (pc' := 35) d_H_add_34 rfl (pk_mul n 4) ?_
  refine x_iload (pc' := 37) d_H_add_35 rfl rfl ?_
  refine x_iadd (z := nI (n * 4 + 1)) (pc' := 38) d_H_add_37 rfl (nI_add _ _) ?_
  refine x_aload_n (pc' := 39) d_H_add_38 rfl rfl ?_
  refine x_iload (pc' := 41) d_H_add_39 rfl rfl ?_
  refine x_laload (v := sp_tv (t 1)) (pc' := 42) d_H_add_41 rfl ((xl_ne (by omega)).trans hw) (vp_in_nI (by decide) (by decide)) ((congrArg w (nI_clamp (by decide))).trans (hw2 1 (by decide))) ?_
  refine x_lastore (h' := (h.set 2 (.inl (.long, 160, .inr (.inl (vp_updL (vp_updL T (nI (n * 4 + 0)).toNatClampNeg (sp_tv (t 0))) (nI (n * 4 + 1)).toNatClampNeg (sp_tv (t 1)))))))) (pc' := 43) d_H_add_42 rfl (xl_at g2) (vp_in_nI (by omega) (by decide)) (List.set_set ..) ?_
  refine x_iinc (y := nI 2) (lo' := [.ref 1, .ref q, .int (sp_vi p1), .int (sp_vi p2), .int (nI n), .int (nI 2)]) (pc' := 46) d_H_add_43 rfl rfl (sp_nI_inc 1) rfl ?_
  refine x_goto (t := 21) d_H_add_46 rfl ?_
  refine x_iload (pc' := 23) d_H_add_21 rfl rfl ?_
  refine x_iconst (v := nI 4) (pc' := 24) d_H_add_23 rfl (by decide) ?_
  refine x_icmpge (t := 49) (pc' := 27) d_H_add_24 rfl rfl (fun q => absurd q (nI_ge (by decide) (by decide))) (fun _ => ?_)
  refine x_aload_n (pc' := 28) d_H_add_27 rfl rfl ?_
  refine x_getfield (ci := 0) (i := 0) (v := .ref 2) (pc' := 31) d_H_add_28 rfl g_H_9 ((xl_ne (by decide)).trans (g1)) rfl ?_
  refine x_iload (pc' := 33) d_H_add_31 rfl rfl ?_
  refine x_iconst (v := nI 4) (pc' := 34) d_H_add_33 rfl (by decide) ?_
  refine x_imul (z := nI (n * 4)) (pc' := 35) d_H_add_34 rfl (pk_mul n 4) ?_
  refine x_iload (pc' := 37) d_H_add_35 rfl rfl ?_
  refine x_iadd (z := nI (n * 4 + 2)) (pc' := 38) d_H_add_37 rfl (nI_add _ _) ?_
  refine x_aload_n (pc' := 39) d_H_add_38 rfl rfl ?_
  refine x_iload (pc' := 41) d_H_add_39 rfl rfl ?_
  refine x_laload (v := sp_tv (t 2)) (pc' := 42) d_H_add_41 rfl ((xl_ne (by omega)).trans hw) (vp_in_nI (by decide) (by decide)) ((congrArg w (nI_clamp (by decide))).trans (hw2 2 (by decide))) ?_
  refine x_lastore (h' := (h.set 2 (.inl (.long, 160, .inr (.inl (vp_updL (vp_updL (vp_updL T (nI (n * 4 + 0)).toNatClampNeg (sp_tv (t 0))) (nI (n * 4 + 1)).toNatClampNeg (sp_tv (t 1))) (nI (n * 4 + 2)).toNatClampNeg (sp_tv (t 2)))))))) (pc' := 43) d_H_add_42 rfl (xl_at g2) (vp_in_nI (by omega) (by decide)) (List.set_set ..) ?_
  refine x_iinc (y := nI 3) (lo' := [.ref 1, .ref q, .int (sp_vi p1), .int (sp_vi p2), .int (nI n), .int (nI 3)]) (pc' := 46) d_H_add_43 rfl rfl (sp_nI_inc 2) rfl ?_
  refine x_goto (t := 21) d_H_add_46 rfl ?_
  refine x_iload (pc' := 23) d_H_add_21 rfl rfl ?_
  refine x_iconst (v := nI 4) (pc' := 24) d_H_add_23 rfl (by decide) ?_
  refine x_icmpge (t := 49) (pc' := 27) d_H_add_24 rfl rfl (fun q => absurd q (nI_ge (by decide) (by decide))) (fun _ => ?_)
  refine x_aload_n (pc' := 28) d_H_add_27 rfl rfl ?_
  refine x_getfield (ci := 0) (i := 0) (v := .ref 2) (pc' := 31) d_H_add_28 rfl g_H_9 ((xl_ne (by decide)).trans (g1)) rfl ?_
  refine x_iload (pc' := 33) d_H_add_31 rfl rfl ?_
  refine x_iconst (v := nI 4) (pc' := 34) d_H_add_33 rfl (by decide) ?_
  refine x_imul (z := nI (n * 4)) (pc' := 35) d_H_add_34 rfl (pk_mul n 4) ?_
  refine x_iload (pc' := 37) d_H_add_35 rfl rfl ?_
  refine x_iadd (z := nI (n * 4 + 3)) (pc' := 38) d_H_add_37 rfl (nI_add _ _) ?_
  refine x_aload_n (pc' := 39) d_H_add_38 rfl rfl ?_
  refine x_iload (pc' := 41) d_H_add_39 rfl rfl ?_
  refine x_laload (v := sp_tv (t 3)) (pc' := 42) d_H_add_41 rfl ((xl_ne (by omega)).trans hw) (vp_in_nI (by decide) (by decide)) ((congrArg w (nI_clamp (by decide))).trans (hw2 3 (by decide))) ?_
  refine x_lastore (h' := (h.set 2 (.inl (.long, 160, .inr (.inl (vp_updL (vp_updL (vp_updL (vp_updL T (nI (n * 4 + 0)).toNatClampNeg (sp_tv (t 0))) (nI (n * 4 + 1)).toNatClampNeg (sp_tv (t 1))) (nI (n * 4 + 2)).toNatClampNeg (sp_tv (t 2))) (nI (n * 4 + 3)).toNatClampNeg (sp_tv (t 3)))))))) (pc' := 43) d_H_add_42 rfl (xl_at g2) (vp_in_nI (by omega) (by decide)) (List.set_set ..) ?_
  refine x_iinc (y := nI 4) (lo' := [.ref 1, .ref q, .int (sp_vi p1), .int (sp_vi p2), .int (nI n), .int (nI 4)]) (pc' := 46) d_H_add_43 rfl rfl (sp_nI_inc 3) rfl ?_
  refine x_goto (t := 21) d_H_add_46 rfl ?_
  refine x_iload (pc' := 23) d_H_add_21 rfl rfl ?_
  refine x_iconst (v := nI 4) (pc' := 24) d_H_add_23 rfl (by decide) ?_
  refine x_icmpge (t := 49) (pc' := 27) d_H_add_24 rfl rfl (fun _ => ?_) (fun q => absurd (nI_le (by decide) (by decide)) q)
  refine x_aload_n (pc' := 50) d_H_add_49 rfl rfl ?_
  refine x_getfield (ci := 0) (i := 1) (v := .ref 3) (pc' := 53) d_H_add_50 rfl g_H_15 ((xl_ne (by decide)).trans (g1)) rfl ?_
  refine x_iload (pc' := 55) d_H_add_53 rfl rfl ?_
  refine x_iload_n (pc' := 56) d_H_add_55 rfl rfl ?_
  refine x_iastore (h' := ((h.set 2 (.inl (.long, 160, .inr (.inl (vp_updL (vp_updL (vp_updL (vp_updL T (nI (n * 4 + 0)).toNatClampNeg (sp_tv (t 0))) (nI (n * 4 + 1)).toNatClampNeg (sp_tv (t 1))) (nI (n * 4 + 2)).toNatClampNeg (sp_tv (t 2))) (nI (n * 4 + 3)).toNatClampNeg (sp_tv (t 3))))))).set 3 (.inl (.int, 40, .inl (upd P (nI n).toNatClampNeg (sp_vi p1)))))) (pc' := 57) d_H_add_56 rfl ((xl_ne (by decide)).trans g3) (vp_in_nI hn (by decide)) rfl ?_
  refine x_aload_n (pc' := 58) d_H_add_57 rfl rfl ?_
  refine x_getfield (ci := 0) (i := 2) (v := .ref 4) (pc' := 61) d_H_add_58 rfl g_H_19 ((xl_ne (by decide)).trans ((xl_ne (by decide)).trans (g1))) rfl ?_
  refine x_iload (pc' := 63) d_H_add_61 rfl rfl ?_
  refine x_iload_n (pc' := 64) d_H_add_63 rfl rfl ?_
  refine x_iastore (h' := (((h.set 2 (.inl (.long, 160, .inr (.inl (vp_updL (vp_updL (vp_updL (vp_updL T (nI (n * 4 + 0)).toNatClampNeg (sp_tv (t 0))) (nI (n * 4 + 1)).toNatClampNeg (sp_tv (t 1))) (nI (n * 4 + 2)).toNatClampNeg (sp_tv (t 2))) (nI (n * 4 + 3)).toNatClampNeg (sp_tv (t 3))))))).set 3 (.inl (.int, 40, .inl (upd P (nI n).toNatClampNeg (sp_vi p1))))).set 4 (.inl (.int, 40, .inl (upd P' (nI n).toNatClampNeg (sp_vi p2)))))) (pc' := 65) d_H_add_64 rfl ((xl_ne (by decide)).trans ((xl_ne (by decide)).trans g4)) (vp_in_nI hn (by decide)) rfl ?_
  refine x_aload_n (pc' := 66) d_H_add_65 rfl rfl ?_
  refine x_getfield (ci := 0) (i := 3) (v := .ref 5) (pc' := 69) d_H_add_66 rfl g_H_22 ((xl_ne (by decide)).trans ((xl_ne (by decide)).trans ((xl_ne (by decide)).trans (g1)))) rfl ?_
  refine x_iload (pc' := 71) d_H_add_69 rfl rfl ?_
  refine x_lconst (v := lN 1) (pc' := 72) d_H_add_71 rfl (by decide) ?_
  refine x_iload (pc' := 74) d_H_add_72 rfl rfl ?_
  refine x_lshl (z := lN (2 ^ n)) (pc' := 75) d_H_add_74 rfl (by rw [wb_shl 1 (by omega), Nat.one_mul]) ?_
  refine x_aload_n (pc' := 76) d_H_add_75 rfl rfl ?_
  refine x_iload_n (pc' := 77) d_H_add_76 rfl rfl ?_
  refine x_virtual (a := 1) (as := [.int (sp_vi p1)]) (r := [.long (lN (2 ^ n)), .int (nI n), .ref 5]) (v := (some (.long (lN (sp_ro H p1))))) (h' := (((h.set 2 (.inl (.long, 160, .inr (.inl (vp_updL (vp_updL (vp_updL (vp_updL T (nI (n * 4 + 0)).toNatClampNeg (sp_tv (t 0))) (nI (n * 4 + 1)).toNatClampNeg (sp_tv (t 1))) (nI (n * 4 + 2)).toNatClampNeg (sp_tv (t 2))) (nI (n * 4 + 3)).toNatClampNeg (sp_tv (t 3))))))).set 3 (.inl (.int, 40, .inl (upd P (nI n).toNatClampNeg (sp_vi p1))))).set 4 (.inl (.int, 40, .inl (upd P' (nI n).toNatClampNeg (sp_vi p2)))))) (st' := [.long (lN (sp_ro H p1)), .long (lN (2 ^ n)), .int (nI n), .ref 5]) (c' := 0) (s' := 0) (pc' := 80) d_H_add_77 rfl c_H_39 hH6.1.2 rfl rfl (Nat.le_of_ble_eq_true rfl) (Nat.le_of_ble_eq_true rfl) (Nat.le_of_ble_eq_true rfl) (fun Q' hq => c_H_reachOf hH6 hp1 hq) rfl rfl rfl ?_
  refine x_lor (z := lN (2 ^ n ||| sp_ro H p1)) (pc' := 81) d_H_add_80 rfl (wb_or b0 b1) ?_
  refine x_aload_n (pc' := 82) d_H_add_81 rfl rfl ?_
  refine x_iload_n (pc' := 83) d_H_add_82 rfl rfl ?_
  refine x_virtual (a := 1) (as := [.int (sp_vi p2)]) (r := [.long (lN (2 ^ n ||| sp_ro H p1)), .int (nI n), .ref 5]) (v := (some (.long (lN (sp_ro H p2))))) (h' := (((h.set 2 (.inl (.long, 160, .inr (.inl (vp_updL (vp_updL (vp_updL (vp_updL T (nI (n * 4 + 0)).toNatClampNeg (sp_tv (t 0))) (nI (n * 4 + 1)).toNatClampNeg (sp_tv (t 1))) (nI (n * 4 + 2)).toNatClampNeg (sp_tv (t 2))) (nI (n * 4 + 3)).toNatClampNeg (sp_tv (t 3))))))).set 3 (.inl (.int, 40, .inl (upd P (nI n).toNatClampNeg (sp_vi p1))))).set 4 (.inl (.int, 40, .inl (upd P' (nI n).toNatClampNeg (sp_vi p2)))))) (st' := [.long (lN (sp_ro H p2)), .long (lN (2 ^ n ||| sp_ro H p1)), .int (nI n), .ref 5]) (c' := 0) (s' := 0) (pc' := 86) d_H_add_83 rfl c_H_39 hH6.1.2 rfl rfl (Nat.le_of_ble_eq_true rfl) (Nat.le_of_ble_eq_true rfl) (Nat.le_of_ble_eq_true rfl) (fun Q' hq => c_H_reachOf hH6 hp2 hq) rfl rfl rfl ?_
  refine x_lor (z := lN (2 ^ n ||| sp_ro H p1 ||| sp_ro H p2)) (pc' := 87) d_H_add_86 rfl (wb_or (Nat.or_lt_two_pow b0 b1) b2) ?_
  refine x_lastore (h' := ((((h.set 2 (.inl (.long, 160, .inr (.inl (vp_updL (vp_updL (vp_updL (vp_updL T (nI (n * 4 + 0)).toNatClampNeg (sp_tv (t 0))) (nI (n * 4 + 1)).toNatClampNeg (sp_tv (t 1))) (nI (n * 4 + 2)).toNatClampNeg (sp_tv (t 2))) (nI (n * 4 + 3)).toNatClampNeg (sp_tv (t 3))))))).set 3 (.inl (.int, 40, .inl (upd P (nI n).toNatClampNeg (sp_vi p1))))).set 4 (.inl (.int, 40, .inl (upd P' (nI n).toNatClampNeg (sp_vi p2))))).set 5 (.inl (.long, 40, .inr (.inl (vp_updL R (nI n).toNatClampNeg (lN (2 ^ n ||| sp_ro H p1 ||| sp_ro H p2)))))))) (pc' := 88) d_H_add_87 rfl ((xl_ne (by decide)).trans ((xl_ne (by decide)).trans ((xl_ne (by decide)).trans g5))) (vp_in_nI hn (by decide)) rfl ?_
  refine x_aload_n (pc' := 89) d_H_add_88 rfl rfl ?_
  refine x_iload (pc' := 91) d_H_add_89 rfl rfl ?_
  refine x_iconst (v := nI 1) (pc' := 92) d_H_add_91 rfl (by decide) ?_
  refine x_iadd (z := nI (n + 1)) (pc' := 93) d_H_add_92 rfl (nI_add _ _) ?_
  refine x_putfield (ci := 0) (i := 4) (h' := (((((h.set 2 (.inl (.long, 160, .inr (.inl (vp_updL (vp_updL (vp_updL (vp_updL T (nI (n * 4 + 0)).toNatClampNeg (sp_tv (t 0))) (nI (n * 4 + 1)).toNatClampNeg (sp_tv (t 1))) (nI (n * 4 + 2)).toNatClampNeg (sp_tv (t 2))) (nI (n * 4 + 3)).toNatClampNeg (sp_tv (t 3))))))).set 3 (.inl (.int, 40, .inl (upd P (nI n).toNatClampNeg (sp_vi p1))))).set 4 (.inl (.int, 40, .inl (upd P' (nI n).toNatClampNeg (sp_vi p2))))).set 5 (.inl (.long, 40, .inr (.inl (vp_updL R (nI n).toNatClampNeg (lN (2 ^ n ||| sp_ro H p1 ||| sp_ro H p2))))))).set 1 (.inr (0, [.ref 2, .ref 3, .ref 4, .ref 5, .int (nI (n + 1))])))) (pc' := 96) d_H_add_93 rfl (p_H_25 _ rfl) ((xl_ne (by decide)).trans ((xl_ne (by decide)).trans ((xl_ne (by decide)).trans ((xl_ne (by decide)).trans g1)))) (Nat.le_of_ble_eq_true rfl) rfl rfl rfl ?_
  refine x_iload (pc' := 98) d_H_add_96 rfl rfl ?_
  exact x_ireturn d_H_add_98 rfl rfl (hQ _ hfin hfr)
/-- what holds of the commits: parents come first, what is reached, texts -/
def sp_WH (H : sp_H) : Prop := sp_n H ≤ 40 ∧ (∀ c, c < sp_n H → sp_ok c (sp_p1 H c) ∧ sp_ok c (sp_p2 H c) ∧ sp_rr H c = 2 ^ c ||| sp_ro H (sp_p1 H c) ||| sp_ro H (sp_p2 H c) ∧ sp_rr H c < 2 ^ (c + 1)) ∧ ∀ j, j < 4 * sp_n H → sp_wt (sp_tx H j)
theorem sp_WH_ro {H : sp_H} (hW : sp_WH H) {c : Option Nat} (hc : sp_ok (sp_n H) c) : sp_ro H c < 2 ^ sp_n H := by
  cases c with
  | none => exact Nat.two_pow_pos _
  | some k =>
    have hk := hc k rfl
    exact Nat.lt_of_lt_of_le (hW.2.1 k hk).2.2.2 (Nat.pow_le_pow_right (by decide) (by omega))
theorem sp_WH_64 {H : sp_H} (hW : sp_WH H) {c : Option Nat} (hc : sp_ok (sp_n H) c) : sp_ro H c < 2 ^ 64 := Nat.lt_of_lt_of_le (sp_WH_ro hW hc) (Nat.pow_le_pow_right (by decide) (by have := hW.1; omega))
theorem sp_WH_of {H : sp_H} (hW : sp_WH H) {c : Option Nat} (hc : sp_ok (sp_n H) c) (f : Nat) (hf : f < 4) : sp_wt (sp_of H c f) := by
  cases c with
  | none => exact fun l e => by cases e
  | some k =>
    have hk := hc k rfl
    exact hW.2.2 _ (by omega)
theorem sp_ok_some {n k : Nat} (h : k < n) : sp_ok n (some k) := fun j e => by cases e; exact h
theorem sp_lt_bit {x k j : Nat} (h : x < 2 ^ k) (hj : k ≤ j) : x.testBit j = false := Nat.testBit_lt_two_pow (Nat.lt_of_lt_of_le h (Nat.pow_le_pow_right (by decide) hj))
theorem l_H_rbl {L : Nat} {xs : Nat → Int32} {d : Nat} {h : xm_H} {H : sp_H} {Q : xm_Q} {m c : Nat} {b : Bool} (hH : ch_H h H) (hW : sp_WH H) (hm : m < 2 ^ 64) (hc : c < sp_n H) (hb : b = true ↔ ∃ k, c < k ∧ k < sp_n H ∧ m.testBit k = true ∧ (sp_rr H k).testBit c = true) (hQ : Q (some (.int (sp_bi b))) h) :
    ∀ r k, k + r = sp_n H → c < k → (∀ j, c < j → j < k → ¬ (m.testBit j = true ∧ (sp_rr H j).testBit c = true)) → xm_X L xs (xm_call L xs (d + 3)) m_H_isReachedByLater (5, [.ref 1, .long (lN m), .float 0, .int (nI c), .int (nI k)], [], h, 0, 0) Q := by
  have h40 := hW.1
  intro r
  induction r with
  | zero =>
    intro k hkr hck hk
    have hkr : k = sp_n H := hkr
    subst hkr
    refine x_iload (pc' := 7) d_H_isReachedByLater_5 rfl rfl ?_
    refine x_aload_n (pc' := 8) d_H_isReachedByLater_7 rfl rfl ?_
    refine x_getfield (ci := 0) (i := 4) (v := .int (nI (sp_n H))) (pc' := 11) d_H_isReachedByLater_8 rfl g_H_25 hH.1.2 rfl ?_
    refine x_icmpge (t := 41) (pc' := 14) d_H_isReachedByLater_11 rfl rfl (fun _ => ?_) (fun q => absurd (nI_le (Nat.le_refl _) (by omega)) q)
    refine x_iconst (v := 0) (pc' := 42) d_H_isReachedByLater_41 rfl (by decide) ?_
    exact x_ireturn d_H_isReachedByLater_42 rfl rfl (x_q (by rw [show b = false from by cases hbb : b with | false => rfl | true => exact absurd (hb.mp hbb) (fun ⟨j, h1, h2, h3, h4⟩ => hk j h1 h2 ⟨h3, h4⟩)]; rfl) hQ)
  | succ r ih =>
    intro k hkr hck hk
    have hkn : k < sp_n H := by omega
    refine x_iload (pc' := 7) d_H_isReachedByLater_5 rfl rfl ?_
    refine x_aload_n (pc' := 8) d_H_isReachedByLater_7 rfl rfl ?_
    refine x_getfield (ci := 0) (i := 4) (v := .int (nI (sp_n H))) (pc' := 11) d_H_isReachedByLater_8 rfl g_H_25 hH.1.2 rfl ?_
    refine x_icmpge (t := 41) (pc' := 14) d_H_isReachedByLater_11 rfl rfl (fun q => absurd q (nI_ge hkn (by omega))) (fun _ => ?_)
    refine x_lload_n (pc' := 15) d_H_isReachedByLater_14 rfl rfl rfl ?_
    refine x_iload (pc' := 17) d_H_isReachedByLater_15 rfl rfl ?_
    refine x_static (as := [.long (lN m), .int (nI k)]) (r := []) (v := (some (.int (sp_bi (m.testBit k))))) (h' := h) (st' := [.int (sp_bi (m.testBit k))]) (c' := 0) (s' := 0) (pc' := 20) d_H_isReachedByLater_17 rfl c_H_43 rfl rfl (Nat.le_of_ble_eq_true rfl) (Nat.le_of_ble_eq_true rfl) (Nat.le_of_ble_eq_true rfl) (fun Q' hq => c_H_isIn hm (by omega) hq) rfl rfl rfl ?_
    refine x_ifeq (t := 35) (pc' := 23) d_H_isReachedByLater_20 rfl rfl (fun q1 => ?_) (fun q1 => ?_)
    · refine x_iinc (y := nI (k + 1)) (lo' := [.ref 1, .long (lN m), .float 0, .int (nI c), .int (nI (k + 1))]) (pc' := 38) d_H_isReachedByLater_35 rfl rfl (sp_nI_inc k) rfl ?_
      refine x_goto (t := 5) d_H_isReachedByLater_38 rfl ?_
      exact ih (k + 1) (by omega) (by omega) (fun j h1 h2 h3 => by rcases Nat.lt_or_eq_of_le (Nat.le_of_lt_succ h2) with h4 | h4; exact hk j h1 h4 h3; subst h4; simp_all [sp_bi_eq0])
    · refine x_aload_n (pc' := 24) d_H_isReachedByLater_23 rfl rfl ?_
      refine x_iload (pc' := 26) d_H_isReachedByLater_24 rfl rfl ?_
      refine x_iload_n (pc' := 27) d_H_isReachedByLater_26 rfl rfl ?_
      refine x_virtual (a := 1) (as := [.int (nI k), .int (nI c)]) (r := []) (v := (some (.int (sp_bi ((sp_rr H k).testBit c))))) (h' := h) (st' := [.int (sp_bi ((sp_rr H k).testBit c))]) (c' := 0) (s' := 0) (pc' := 30) d_H_isReachedByLater_27 rfl c_H_50 hH.1.2 rfl rfl (Nat.le_of_ble_eq_true rfl) (Nat.le_of_ble_eq_true rfl) (Nat.le_of_ble_eq_true rfl) (fun Q' hq => c_H_reaches (c := some k) hH (sp_ok_some hkn) (sp_WH_64 hW (sp_ok_some hkn)) (by omega) hq) rfl rfl rfl ?_
      refine x_ifeq (t := 35) (pc' := 33) d_H_isReachedByLater_30 rfl rfl (fun q2 => ?_) (fun q2 => ?_)
      · refine x_iinc (y := nI (k + 1)) (lo' := [.ref 1, .long (lN m), .float 0, .int (nI c), .int (nI (k + 1))]) (pc' := 38) d_H_isReachedByLater_35 rfl rfl (sp_nI_inc k) rfl ?_
        refine x_goto (t := 5) d_H_isReachedByLater_38 rfl ?_
        exact ih (k + 1) (by omega) (by omega) (fun j h1 h2 h3 => by rcases Nat.lt_or_eq_of_le (Nat.le_of_lt_succ h2) with h4 | h4; exact hk j h1 h4 h3; subst h4; simp_all [sp_bi_eq0])
      · refine x_iconst (v := 1) (pc' := 34) d_H_isReachedByLater_33 rfl (by decide) ?_
        exact x_ireturn d_H_isReachedByLater_34 rfl rfl (x_q (by rw [show b = true from hb.mpr ⟨k, hck, hkn, by simpa [sp_bi_eq0] using q1, by simpa [sp_bi_eq0] using q2⟩]; rfl) hQ)
theorem c_H_isReachedByLater {L : Nat} {xs : Nat → Int32} {d : Nat} {h : xm_H} {H : sp_H} {Q : xm_Q} {m c : Nat} {b : Bool} (hH : ch_H h H) (hW : sp_WH H) (hm : m < 2 ^ 64) (hc : c < sp_n H) (hb : b = true ↔ ∃ k, c < k ∧ k < sp_n H ∧ m.testBit k = true ∧ (sp_rr H k).testBit c = true) (hQ : Q (some (.int (sp_bi b))) h) : xm_call L xs (d + 4) m_H_isReachedByLater [.ref 1, .long (lN m), .int (nI c)] h Q := by
  refine x_call (lo := [.ref 1, .long (lN m), .float 0, .int (nI c), .float 0]) (Nat.le_of_ble_eq_true rfl) rfl ?_
  refine x_iload_n (pc' := 1) d_H_isReachedByLater_0 rfl rfl ?_
  refine x_iconst (v := nI 1) (pc' := 2) d_H_isReachedByLater_1 rfl (by decide) ?_
  refine x_iadd (z := nI (c + 1)) (pc' := 3) d_H_isReachedByLater_2 rfl (nI_add _ _) ?_
  refine x_istore (lo' := [.ref 1, .long (lN m), .float 0, .int (nI c), .int (nI (c + 1))]) (pc' := 5) d_H_isReachedByLater_3 rfl (Nat.le_of_ble_eq_true rfl) rfl ?_
  exact l_H_rbl hH hW hm hc hb hQ (sp_n H - (c + 1)) (c + 1) (by omega) (by omega) (fun j h1 h2 => absurd h1 (by omega))
def sp_lat (H : sp_H) (m k : Nat) : Bool := (List.range (sp_n H)).any (fun j => decide (k < j) && (m.testBit j && (sp_rr H j).testBit k))
theorem sp_lat_iff {H : sp_H} {m k : Nat} : sp_lat H m k = true ↔ ∃ j, k < j ∧ j < sp_n H ∧ m.testBit j = true ∧ (sp_rr H j).testBit k = true := by
  unfold sp_lat
  rw [List.any_eq_true]
  constructor
  · rintro ⟨j, h1, h2⟩
    simp only [Bool.and_eq_true, decide_eq_true_eq] at h2
    exact ⟨j, h2.1, List.mem_range.mp h1, h2.2⟩
  · rintro ⟨j, h1, h2, h3⟩
    exact ⟨j, List.mem_range.mpr h2, by simp only [Bool.and_eq_true, decide_eq_true_eq]; exact ⟨h1, h3⟩⟩
theorem sp_best_iff {H : sp_H} (hW : sp_WH H) {m k : Nat} (hk : k < sp_n H) : sp_best H m k = true ↔ m.testBit k = true ∧ ¬ ∃ j, k < j ∧ j < sp_n H ∧ m.testBit j = true ∧ (sp_rr H j).testBit k = true := by
  unfold sp_best
  rw [Bool.and_eq_true, List.all_eq_true]
  refine and_congr_right (fun _ => ⟨fun h => ?_, fun h j hj => ?_⟩)
  · rintro ⟨j, h1, h2, h3, h4⟩
    have := h j (List.mem_range.mpr h2)
    have hne : (j == k) = false := by simp; omega
    simp [hne, h3, h4] at this
  · have hj := List.mem_range.mp hj
    by_cases h1 : j = k
    · simp [h1]
    · by_cases h2 : k < j
      · cases h3 : m.testBit j with
        | false => simp
        | true =>
          cases h4 : (sp_rr H j).testBit k with
          | false => simp
          | true => exact absurd ⟨j, h2, hj, h3, h4⟩ h
      · have h5 := sp_lt_bit (hW.2.1 j hj).2.2.2 (show j + 1 ≤ k by omega)
        simp [h5]
theorem sp_find_some {n k : Nat} {p : Nat → Bool} (hk : k < n) (hp : p k = true) (hj : ∀ j, j < k → p j = false) : (List.range n).find? p = some k := by
  rw [List.find?_range_eq_some]
  exact ⟨hp, List.mem_range.mpr hk, fun j h => by simp [hj j h]⟩
theorem sp_find_none {n : Nat} {p : Nat → Bool} (hj : ∀ j, j < n → p j = false) : (List.range n).find? p = none := by
  rw [List.find?_eq_none]
  intro j h
  simp [hj j (List.mem_range.mp h)]
theorem l_H_base {L : Nat} {xs : Nat → Int32} {d : Nat} {h : xm_H} {H : sp_H} {Q : xm_Q} {m : Nat} {x y : Int32} (hH : ch_H h H) (hW : sp_WH H) (hm : m < 2 ^ 64) (hQ : Q (some (.int (sp_vi ((List.range (sp_n H)).find? (sp_best H m))))) h) :
    ∀ r k, k + r = sp_n H → (∀ j, j < k → sp_best H m j = false) → xm_X L xs (xm_call L xs (d + 4)) m_H_baseOf (15, [.ref 1, .int x, .int y, .long (lN m), .float 0, .int (nI k)], [], h, 0, 0) Q := by
  have h40 := hW.1
  intro r
  induction r with
  | zero =>
    intro k hkr hk
    have hkr : k = sp_n H := hkr
    subst hkr
    refine x_iload (pc' := 17) d_H_baseOf_15 rfl rfl ?_
    refine x_aload_n (pc' := 18) d_H_baseOf_17 rfl rfl ?_
    refine x_getfield (ci := 0) (i := 4) (v := .int (nI (sp_n H))) (pc' := 21) d_H_baseOf_18 rfl g_H_25 hH.1.2 rfl ?_
    refine x_icmpge (t := 52) (pc' := 24) d_H_baseOf_21 rfl rfl (fun _ => ?_) (fun q => absurd (nI_le (Nat.le_refl _) (by omega)) q)
    refine x_bipush (v := (-2)) (pc' := 54) d_H_baseOf_52 rfl (by decide) ?_
    exact x_ireturn d_H_baseOf_54 rfl rfl (x_q (by rw [sp_find_none hk]; rfl) hQ)
  | succ r ih =>
    intro k hkr hk
    have hkn : k < sp_n H := by omega
    refine x_iload (pc' := 17) d_H_baseOf_15 rfl rfl ?_
    refine x_aload_n (pc' := 18) d_H_baseOf_17 rfl rfl ?_
    refine x_getfield (ci := 0) (i := 4) (v := .int (nI (sp_n H))) (pc' := 21) d_H_baseOf_18 rfl g_H_25 hH.1.2 rfl ?_
    refine x_icmpge (t := 52) (pc' := 24) d_H_baseOf_21 rfl rfl (fun q => absurd q (nI_ge hkn (by omega))) (fun _ => ?_)
    refine x_lload_n (pc' := 25) d_H_baseOf_24 rfl rfl rfl ?_
    refine x_iload (pc' := 27) d_H_baseOf_25 rfl rfl ?_
    refine x_static (as := [.long (lN m), .int (nI k)]) (r := []) (v := (some (.int (sp_bi (m.testBit k))))) (h' := h) (st' := [.int (sp_bi (m.testBit k))]) (c' := 0) (s' := 0) (pc' := 30) d_H_baseOf_27 rfl c_H_43 rfl rfl (Nat.le_of_ble_eq_true rfl) (Nat.le_of_ble_eq_true rfl) (Nat.le_of_ble_eq_true rfl) (fun Q' hq => c_H_isIn hm (by omega) hq) rfl rfl rfl ?_
    refine x_ifeq (t := 46) (pc' := 33) d_H_baseOf_30 rfl rfl (fun q1 => ?_) (fun q1 => ?_)
    · refine x_iinc (y := nI (k + 1)) (lo' := [.ref 1, .int x, .int y, .long (lN m), .float 0, .int (nI (k + 1))]) (pc' := 49) d_H_baseOf_46 rfl rfl (sp_nI_inc k) rfl ?_
      refine x_goto (t := 15) d_H_baseOf_49 rfl ?_
      exact ih (k + 1) (by omega) (fun j h2 => by rcases Nat.lt_or_eq_of_le (Nat.le_of_lt_succ h2) with h4 | h4; exact hk j h4; subst h4; rw [Bool.eq_false_iff]; intro h5; have h6 := (sp_best_iff hW hkn).mp h5; rw [← sp_lat_iff] at h6; simp_all [sp_bi_eq0])
    · refine x_aload_n (pc' := 34) d_H_baseOf_33 rfl rfl ?_
      refine x_lload_n (pc' := 35) d_H_baseOf_34 rfl rfl rfl ?_
      refine x_iload (pc' := 37) d_H_baseOf_35 rfl rfl ?_
      refine x_virtual (a := 1) (as := [.long (lN m), .int (nI k)]) (r := []) (v := (some (.int (sp_bi (sp_lat H m k))))) (h' := h) (st' := [.int (sp_bi (sp_lat H m k))]) (c' := 0) (s' := 0) (pc' := 40) d_H_baseOf_37 rfl c_H_47 hH.1.2 rfl rfl (Nat.le_of_ble_eq_true rfl) (Nat.le_of_ble_eq_true rfl) (Nat.le_of_ble_eq_true rfl) (fun Q' hq => c_H_isReachedByLater hH hW hm hkn sp_lat_iff hq) rfl rfl rfl ?_
      refine x_ifne (t := 46) (pc' := 43) d_H_baseOf_40 rfl rfl (fun q2 => ?_) (fun q2 => ?_)
      · refine x_iinc (y := nI (k + 1)) (lo' := [.ref 1, .int x, .int y, .long (lN m), .float 0, .int (nI (k + 1))]) (pc' := 49) d_H_baseOf_46 rfl rfl (sp_nI_inc k) rfl ?_
        refine x_goto (t := 15) d_H_baseOf_49 rfl ?_
        exact ih (k + 1) (by omega) (fun j h2 => by rcases Nat.lt_or_eq_of_le (Nat.le_of_lt_succ h2) with h4 | h4; exact hk j h4; subst h4; rw [Bool.eq_false_iff]; intro h5; have h6 := (sp_best_iff hW hkn).mp h5; rw [← sp_lat_iff] at h6; simp_all [sp_bi_eq0])
      · refine x_iload (pc' := 45) d_H_baseOf_43 rfl rfl ?_
        exact x_ireturn d_H_baseOf_45 rfl rfl (x_q (by rw [sp_find_some hkn ((sp_best_iff hW hkn).mpr ⟨by simpa [sp_bi_eq0] using q1, fun z => by have := sp_lat_iff.mpr z; rw [this] at q2; exact absurd q2 (by decide)⟩) hk]; rfl) hQ)
theorem c_H_baseOf {L : Nat} {xs : Nat → Int32} {d : Nat} {h : xm_H} {H : sp_H} {Q : xm_Q} {a b : Option Nat} (hH : ch_H h H) (hW : sp_WH H) (ha : sp_ok (sp_n H) a) (hb : sp_ok (sp_n H) b) (hQ : Q (some (.int (sp_vi (sp_base H a b)))) h) : xm_call L xs (d + 5) m_H_baseOf [.ref 1, .int (sp_vi a), .int (sp_vi b)] h Q := by
  refine x_call (lo := [.ref 1, .int (sp_vi a), .int (sp_vi b), .float 0, .float 0, .float 0]) (Nat.le_of_ble_eq_true rfl) rfl ?_
  refine x_aload_n (pc' := 1) d_H_baseOf_0 rfl rfl ?_
  refine x_iload_n (pc' := 2) d_H_baseOf_1 rfl rfl ?_
  refine x_virtual (a := 1) (as := [.int (sp_vi a)]) (r := []) (v := (some (.long (lN (sp_ro H a))))) (h' := h) (st' := [.long (lN (sp_ro H a))]) (c' := 0) (s' := 0) (pc' := 5) d_H_baseOf_2 rfl c_H_39 hH.1.2 rfl rfl (Nat.le_of_ble_eq_true rfl) (Nat.le_of_ble_eq_true rfl) (Nat.le_of_ble_eq_true rfl) (fun Q' hq => c_H_reachOf hH ha hq) rfl rfl rfl ?_
  refine x_aload_n (pc' := 6) d_H_baseOf_5 rfl rfl ?_
  refine x_iload_n (pc' := 7) d_H_baseOf_6 rfl rfl ?_
  refine x_virtual (a := 1) (as := [.int (sp_vi b)]) (r := [.long (lN (sp_ro H a))]) (v := (some (.long (lN (sp_ro H b))))) (h' := h) (st' := [.long (lN (sp_ro H b)), .long (lN (sp_ro H a))]) (c' := 0) (s' := 0) (pc' := 10) d_H_baseOf_7 rfl c_H_39 hH.1.2 rfl rfl (Nat.le_of_ble_eq_true rfl) (Nat.le_of_ble_eq_true rfl) (Nat.le_of_ble_eq_true rfl) (fun Q' hq => c_H_reachOf hH hb hq) rfl rfl rfl ?_
  refine x_land (z := lN (sp_ro H a &&& sp_ro H b)) (pc' := 11) d_H_baseOf_10 rfl (wb_and (sp_WH_64 hW ha) (sp_WH_64 hW hb)) ?_
  refine x_lstore_n (lo' := [.ref 1, .int (sp_vi a), .int (sp_vi b), .long (lN (sp_ro H a &&& sp_ro H b)), .float 0, .float 0]) (pc' := 12) d_H_baseOf_11 rfl (Nat.le_of_ble_eq_true rfl) rfl ?_
  refine x_iconst (v := nI 0) (pc' := 13) d_H_baseOf_12 rfl (by decide) ?_
  refine x_istore (lo' := [.ref 1, .int (sp_vi a), .int (sp_vi b), .long (lN (sp_ro H a &&& sp_ro H b)), .float 0, .int (nI 0)]) (pc' := 15) d_H_baseOf_13 rfl (Nat.le_of_ble_eq_true rfl) rfl ?_
  exact l_H_base hH hW (Nat.and_lt_two_pow _ (sp_WH_64 hW hb)) hQ (sp_n H) 0 (by omega) (fun j h => absurd h (Nat.not_lt_zero _))
end
section
/-! Texts as lists and as numbers; contracts of Texts and of take. (Printed by c_text.py.) -/
theorem sp_16 (k : Nat) : 2 ^ (4 * k) = 16 ^ k := by rw [Nat.pow_mul]
theorem sp_dec_len : ∀ (k m : Nat), (sp_dec m k).length = k
  | 0, _ => rfl
  | k + 1, m => by
    unfold sp_dec
    rw [List.length_cons, sp_dec_len k]
theorem sp_dec_lt : ∀ (k m : Nat), ∀ d ∈ sp_dec m k, d < 16
  | 0, _, d, h => by cases h
  | k + 1, m, d, h => by
    unfold sp_dec at h
    rcases List.mem_cons.mp h with h | h
    · rw [h]
      exact Nat.mod_lt _ (by decide)
    · exact sp_dec_lt k _ d h
theorem sp_dec_dig : ∀ (k m : Nat), sp_dig (sp_dec m k) = m % 16 ^ k
  | 0, m => by
    rw [Nat.pow_zero, Nat.mod_one]
    rfl
  | k + 1, m => by
    unfold sp_dec sp_dig
    rw [sp_dec_dig k, Nat.pow_succ, Nat.mul_comm (16 ^ k) 16, Nat.mod_mul]
theorem sp_enc_dec (k m : Nat) : sp_enc (sp_dec m k) = k * 4294967296 + m % 16 ^ k := by
  unfold sp_enc
  rw [sp_dec_len, sp_dec_dig]
abbrev sp_wl (t : List Nat) : Prop := t.length ≤ 8 ∧ ∀ d ∈ t, d < 16
theorem sp_wl_drop {t : List Nat} (h : sp_wl t) (i : Nat) : sp_wl (t.drop i) := ⟨by rw [List.length_drop]; have := h.1; omega, fun d hd => h.2 d (List.mem_of_mem_drop hd)⟩
theorem sp_wl_take {t : List Nat} (h : sp_wl t) (i : Nat) : sp_wl (t.take i) := ⟨by rw [List.length_take]; have := h.1; omega, fun d hd => h.2 d (List.mem_of_mem_take hd)⟩
theorem sp_wl_sl {t : List Nat} (h : sp_wl t) (i k : Nat) : sp_wl (sp_sl t i k) := sp_wl_take (sp_wl_drop h i) _
theorem sp_enc_len {t : List Nat} (h : sp_wl t) : sp_enc t / 4294967296 = t.length := by
  have := sp_dig32 h.1 h.2
  unfold sp_enc
  omega
theorem sp_enc_64 {t : List Nat} (h : sp_wl t) : sp_enc t < 2 ^ 64 := Nat.lt_of_lt_of_le (sp_enc_lt h.1 h.2) (by decide)
theorem sp_dig_div : ∀ {t : List Nat} (i : Nat), (∀ d ∈ t, d < 16) → sp_dig t / 16 ^ i = sp_dig (t.drop i)
  | t, 0, _ => by rw [Nat.pow_zero, Nat.div_one, List.drop_zero]
  | [], i + 1, _ => by
    show 0 / _ = sp_dig []
    rw [Nat.zero_div]
    rfl
  | d :: t, i + 1, h => by
    have hd := h d List.mem_cons_self
    rw [List.drop_succ_cons, ← sp_dig_div i (fun x hx => h x (List.mem_cons_of_mem _ hx)), Nat.pow_succ, Nat.mul_comm, ← Nat.div_div_eq_div_mul]
    congr 1
    rw [show sp_dig (d :: t) = d + 16 * sp_dig t from rfl]
    omega
theorem sp_dec_take : ∀ {t : List Nat} (n : Nat), n ≤ t.length → (∀ d ∈ t, d < 16) → sp_dec (sp_dig t) n = t.take n
  | t, 0, _, _ => by rw [List.take_zero]; rfl
  | [], n + 1, h, _ => by simp at h
  | d :: t, n + 1, h, h2 => by
    have hd := h2 d List.mem_cons_self
    rw [List.take_succ_cons, ← sp_dec_take n (by simpa using h) (fun x hx => h2 x (List.mem_cons_of_mem _ hx))]
    unfold sp_dec
    have e1 : sp_dig (d :: t) % 16 = d := by unfold sp_dig; omega
    have e2 : sp_dig (d :: t) / 16 = sp_dig t := by
      rw [show sp_dig (d :: t) = d + 16 * sp_dig t from rfl]
      omega
    rw [e1, e2]
    cases n <;> rfl
theorem sp_dec_mod : ∀ (n a m : Nat), sp_dec (a * 16 ^ n + m) n = sp_dec m n
  | 0, _, _ => rfl
  | n + 1, a, m => by
    unfold sp_dec
    have e1 : (a * 16 ^ (n + 1) + m) % 16 = m % 16 := by rw [Nat.pow_succ, ← Nat.mul_assoc, Nat.add_comm, Nat.add_mul_mod_self_right]
    have e2 : (a * 16 ^ (n + 1) + m) / 16 = a * 16 ^ n + m / 16 := by
      rw [Nat.pow_succ, ← Nat.mul_assoc]
      omega
    rw [e1, e2, sp_dec_mod n]
theorem sp_enc_div {t : List Nat} (h : sp_wl t) {i : Nat} (hi : i ≤ 8) : sp_enc t / 16 ^ i = t.length * 16 ^ (8 - i) + sp_dig (t.drop i) := by
  have e : 4294967296 = 16 ^ (8 - i) * 16 ^ i := by
    rw [← Nat.pow_add, Nat.sub_add_cancel hi]
  unfold sp_enc
  rw [e, ← Nat.mul_assoc, Nat.add_comm, Nat.add_mul_div_right _ _ (Nat.pow_pos (by decide)), sp_dig_div i h.2, Nat.add_comm]
theorem sp_enc_sl {t : List Nat} (h : sp_wl t) {i k : Nat} (hi : i ≤ k) (hk : k ≤ t.length) : sp_dec (sp_enc t / 16 ^ i) (k - i) = sp_sl t i k := by
  have hl := h.1
  rw [sp_enc_div h (by omega)]
  have e : 16 ^ (8 - i) = 16 ^ (8 - k) * 16 ^ (k - i) := by rw [← Nat.pow_add]; congr 1; omega
  rw [e, ← Nat.mul_assoc, sp_dec_mod]
  exact sp_dec_take (k - i) (by rw [List.length_drop]; omega) (sp_wl_drop h i).2
theorem sp_enc_at {t : List Nat} (h : sp_wl t) {i : Nat} (hi : i < t.length) : sp_enc t / 16 ^ i % 16 = t.getD i 0 := by
  have hl := h.1
  rw [sp_enc_div h (by omega), show 8 - i = (8 - i - 1) + 1 by omega, Nat.pow_succ, ← Nat.mul_assoc, Nat.add_comm, Nat.add_mul_mod_self_right, List.drop_eq_getElem_cons hi]
  have := h.2 _ (List.getElem_mem hi)
  unfold sp_dig
  rw [List.getD_eq_getElem?_getD, List.getElem?_eq_getElem hi]
  simp only [Option.getD_some]
  omega
/-- a text or CLASH -/
def sp_jv (t : Option (List Nat)) : Int64 := match t with
  | none => -5
  | some t => lN (sp_enc t)
def sp_join (a b : Option (List Nat)) : Option (List Nat) := match a, b with
  | some a, some b => if a.length + b.length ≤ 8 then some (a ++ b) else none
  | _, _ => none
theorem sp_lN_m5 {n : Nat} (h : n < 2 ^ 62) : lN n ≠ -5 := by
  intro e
  have h1 := pk_lT (n := n) (by omega)
  rw [e] at h1
  have h2 : (-5 : Int64).toInt = -5 := by decide
  omega
theorem sp_jv5 {t : List Nat} (h : sp_wl t) : lN (sp_enc t) ≠ -5 := sp_lN_m5 (Nat.lt_of_lt_of_le (sp_enc_lt h.1 h.2) (by decide))
theorem sp_dig_app : ∀ (a b : List Nat), sp_dig (a ++ b) = sp_dig a + sp_dig b * 16 ^ a.length
  | [], b => by
    rw [List.nil_append, List.length_nil, Nat.pow_zero, Nat.mul_one]
    show _ = 0 + _
    rw [Nat.zero_add]
  | d :: a, b => by
    rw [List.cons_append, List.length_cons, Nat.pow_succ, show sp_dig (d :: (a ++ b)) = d + 16 * sp_dig (a ++ b) from rfl, show sp_dig (d :: a) = d + 16 * sp_dig a from rfl, sp_dig_app a b, ← Nat.mul_assoc]
    omega
theorem sp_wl_app {a b : List Nat} (ha : sp_wl a) (hb : sp_wl b) (h : a.length + b.length ≤ 8) : sp_wl (a ++ b) := ⟨by rw [List.length_append]; exact h, fun d hd => (List.mem_append.mp hd).elim (ha.2 d) (hb.2 d)⟩
theorem sp_enc_dig {t : List Nat} (h : sp_wl t) : sp_enc t % 4294967296 = sp_dig t := by
  have := sp_dig32 h.1 h.2
  unfold sp_enc
  omega
theorem sp_dec_all {t : List Nat} (h : sp_wl t) : sp_dec (sp_dig t) t.length = t := by
  rw [sp_dec_take t.length (Nat.le_refl _) h.2, List.take_length]
theorem c_T_pack {L : Nat} {xs : Nat → Int32} {d : Nat} {h : xm_H} {Q : xm_Q} {m k : Nat} (hm : m < 2 ^ 64) (hk : k ≤ 8) (hQ : Q (some (.long (lN (sp_enc (sp_dec m k))))) h) : xm_call L xs (d + 1) m_T_pack [.long (lN m), .int (nI k)] h Q := by
  have hb : m % 2 ^ (4 * k) < 2 ^ 32 := Nat.lt_of_lt_of_le (Nat.mod_lt _ (Nat.two_pow_pos _)) (Nat.pow_le_pow_right (by decide) (by omega))
  have hor : lN (k * 2 ^ 32) ||| lN (m % 2 ^ (4 * k)) = lN (sp_enc (sp_dec m k)) := by
    rw [g_or (k := 32) rfl hb (by omega), sp_enc_dec, ← sp_16]
  refine x_call (lo := [.long (lN m), .float 0, .int (nI k), .float 0, .float 0]) (Nat.le_of_ble_eq_true rfl) rfl ?_
  refine x_lconst (v := lN 1) (pc' := 1) d_T_pack_0 rfl (by decide) ?_
  refine x_iconst (v := nI 4) (pc' := 2) d_T_pack_1 rfl (by decide) ?_
  refine x_iload_n (pc' := 3) d_T_pack_2 rfl rfl ?_
  refine x_imul (z := nI (4 * k)) (pc' := 4) d_T_pack_3 rfl (pk_mul 4 k) ?_
  refine x_lshl (z := lN (2 ^ (4 * k))) (pc' := 5) d_T_pack_4 rfl (by rw [wb_shl 1 (by omega), Nat.one_mul]) ?_
  refine x_lconst (v := lN 1) (pc' := 6) d_T_pack_5 rfl (by decide) ?_
  refine x_lsub (z := lN (2 ^ (4 * k) - 1)) (pc' := 7) d_T_pack_6 rfl (lN_sub Nat.one_le_two_pow) ?_
  refine x_lstore_n (lo' := [.long (lN m), .float 0, .int (nI k), .long (lN (2 ^ (4 * k) - 1)), .float 0]) (pc' := 8) d_T_pack_7 rfl (Nat.le_of_ble_eq_true rfl) rfl ?_
  refine x_iload_n (pc' := 9) d_T_pack_8 rfl rfl ?_
  refine x_i2l (z := lN k) (pc' := 10) d_T_pack_9 rfl (nI_l (by omega)) ?_
  refine x_bipush (v := nI 32) (pc' := 12) d_T_pack_10 rfl (by decide) ?_
  refine x_lshl (z := lN (k * 2 ^ 32)) (pc' := 13) d_T_pack_12 rfl (wb_shl k (by decide)) ?_
  refine x_lload_n (pc' := 14) d_T_pack_13 rfl rfl rfl ?_
  refine x_lload_n (pc' := 15) d_T_pack_14 rfl rfl rfl ?_
  refine x_land (z := lN (m % 2 ^ (4 * k))) (pc' := 16) d_T_pack_15 rfl (wb_mask hm (by omega)) ?_
  refine x_lor (z := lN (sp_enc (sp_dec m k))) (pc' := 17) d_T_pack_16 rfl hor ?_
  exact x_lreturn d_T_pack_17 rfl hQ
theorem c_T_countOf {L : Nat} {xs : Nat → Int32} {d : Nat} {h : xm_H} {Q : xm_Q} {t : List Nat} (ht : sp_wl t) (hQ : Q (some (.int (nI t.length))) h) : xm_call L xs (d + 1) m_T_countOf [.long (lN (sp_enc t))] h Q := by
  refine x_call (lo := [.long (lN (sp_enc t)), .float 0]) (Nat.le_of_ble_eq_true rfl) rfl ?_
  refine x_lload_n (pc' := 1) d_T_countOf_0 rfl rfl rfl ?_
  refine x_bipush (v := nI 32) (pc' := 3) d_T_countOf_1 rfl (by decide) ?_
  refine x_lushr (z := lN t.length) (pc' := 4) d_T_countOf_3 rfl (by rw [wb_shr (sp_enc_64 ht) (by decide), show 2 ^ 32 = 4294967296 from rfl, sp_enc_len ht]) ?_
  refine x_l2i (z := nI t.length) (pc' := 5) d_T_countOf_4 rfl (lN_i _) ?_
  exact x_ireturn d_T_countOf_5 rfl rfl hQ
theorem c_T_lineAt {L : Nat} {xs : Nat → Int32} {d : Nat} {h : xm_H} {Q : xm_Q} {t : List Nat} {j : Nat} (ht : sp_wl t) (hj : j < t.length) (hQ : Q (some (.long (lN (t.getD j 0)))) h) : xm_call L xs (d + 1) m_T_lineAt [.long (lN (sp_enc t)), .int (nI j)] h Q := by
  refine x_call (lo := [.long (lN (sp_enc t)), .float 0, .int (nI j)]) (Nat.le_of_ble_eq_true rfl) rfl ?_
  refine x_lload_n (pc' := 1) d_T_lineAt_0 rfl rfl rfl ?_
  refine x_iconst (v := nI 4) (pc' := 2) d_T_lineAt_1 rfl (by decide) ?_
  refine x_iload_n (pc' := 3) d_T_lineAt_2 rfl rfl ?_
  refine x_imul (z := nI (4 * j)) (pc' := 4) d_T_lineAt_3 rfl (pk_mul 4 j) ?_
  refine x_lushr (z := lN (sp_enc t / 2 ^ (4 * j))) (pc' := 5) d_T_lineAt_4 rfl (wb_shr (sp_enc_64 ht) (by have := ht.1; omega)) ?_
  refine x_ldc2_w (x := 15) (pc' := 8) d_T_lineAt_5 rfl k_T_11 ?_
  refine x_land (z := lN (t.getD j 0)) (pc' := 9) d_T_lineAt_8 rfl (by rw [show (15 : Int64) = lN (2 ^ 4 - 1) from rfl, wb_mask (sp_lt64 (sp_enc_64 ht)) (by decide), sp_16, show 2 ^ 4 = 16 from rfl, sp_enc_at ht hj]) ?_
  exact x_lreturn d_T_lineAt_9 rfl hQ
theorem c_T_piece {L : Nat} {xs : Nat → Int32} {d : Nat} {h : xm_H} {Q : xm_Q} {t : List Nat} {i k : Nat} (ht : sp_wl t) (hi : i ≤ k) (hk : k ≤ t.length) (hQ : Q (some (.long (lN (sp_enc (sp_sl t i k))))) h) : xm_call L xs (d + 2) m_T_piece [.long (lN (sp_enc t)), .int (nI i), .int (nI k)] h Q := by
  refine x_call (lo := [.long (lN (sp_enc t)), .float 0, .int (nI i), .int (nI k)]) (Nat.le_of_ble_eq_true rfl) rfl ?_
  refine x_lload_n (pc' := 1) d_T_piece_0 rfl rfl rfl ?_
  refine x_iconst (v := nI 4) (pc' := 2) d_T_piece_1 rfl (by decide) ?_
  refine x_iload_n (pc' := 3) d_T_piece_2 rfl rfl ?_
  refine x_imul (z := nI (4 * i)) (pc' := 4) d_T_piece_3 rfl (pk_mul 4 i) ?_
  refine x_lushr (z := lN (sp_enc t / 2 ^ (4 * i))) (pc' := 5) d_T_piece_4 rfl (wb_shr (sp_enc_64 ht) (by have := ht.1; omega)) ?_
  refine x_iload_n (pc' := 6) d_T_piece_5 rfl rfl ?_
  refine x_iload_n (pc' := 7) d_T_piece_6 rfl rfl ?_
  refine x_isub (z := nI (k - i)) (pc' := 8) d_T_piece_7 rfl (pk_sub hi) ?_
  refine x_static (as := [.long (lN (sp_enc t / 2 ^ (4 * i))), .int (nI (k - i))]) (r := []) (v := (some (.long (lN (sp_enc (sp_sl t i k)))))) (h' := h) (st' := [.long (lN (sp_enc (sp_sl t i k)))]) (c' := 0) (s' := 0) (pc' := 11) d_T_piece_8 rfl c_T_13 rfl rfl (Nat.le_of_ble_eq_true rfl) (Nat.le_of_ble_eq_true rfl) (Nat.le_of_ble_eq_true rfl) (fun Q' hq => c_T_pack (sp_lt64 (sp_enc_64 ht)) (by have := ht.1; omega) (x_ql (by rw [sp_16, sp_enc_sl ht hi hk]) hq)) rfl rfl rfl ?_
  exact x_lreturn d_T_piece_11 rfl hQ
theorem c_T_join0 {L : Nat} {xs : Nat → Int32} {d : Nat} {h : xm_H} {Q : xm_Q} {y : Int64} (hQ : Q (some (.long (-5))) h) : xm_call L xs (d + 2) m_T_join [.long (-5), .long y] h Q := by
  refine x_call (lo := [.long (-5), .float 0, .long y, .float 0, .float 0, .float 0, .float 0, .float 0]) (Nat.le_of_ble_eq_true rfl) rfl ?_
  refine x_lload_n (pc' := 1) d_T_join_0 rfl rfl rfl ?_
  refine x_ldc2_w (x := (-5)) (pc' := 4) d_T_join_1 rfl k_T_17 ?_
  refine x_lcmp (z := lg_cmp (-5) (-5)) (pc' := 5) d_T_join_4 rfl rfl ?_
  refine x_ifeq (t := 16) (pc' := 8) d_T_join_5 rfl rfl (fun _ => ?_) (fun q => absurd ((lg_cmp_eq _ _).mpr rfl) q)
  refine x_ldc2_w (x := (-5)) (pc' := 19) d_T_join_16 rfl k_T_17 ?_
  exact x_lreturn d_T_join_19 rfl hQ
theorem c_T_join1 {L : Nat} {xs : Nat → Int32} {d : Nat} {h : xm_H} {Q : xm_Q} {x : Int64} (hx : x ≠ -5) (hQ : Q (some (.long (-5))) h) : xm_call L xs (d + 2) m_T_join [.long x, .long (-5)] h Q := by
  refine x_call (lo := [.long x, .float 0, .long (-5), .float 0, .float 0, .float 0, .float 0, .float 0]) (Nat.le_of_ble_eq_true rfl) rfl ?_
  refine x_lload_n (pc' := 1) d_T_join_0 rfl rfl rfl ?_
  refine x_ldc2_w (x := (-5)) (pc' := 4) d_T_join_1 rfl k_T_17 ?_
  refine x_lcmp (z := lg_cmp x (-5)) (pc' := 5) d_T_join_4 rfl rfl ?_
  refine x_ifeq (t := 16) (pc' := 8) d_T_join_5 rfl rfl (fun q => absurd q (fun z => hx ((lg_cmp_eq _ _).mp z))) (fun _ => ?_)
  refine x_lload_n (pc' := 9) d_T_join_8 rfl rfl rfl ?_
  refine x_ldc2_w (x := (-5)) (pc' := 12) d_T_join_9 rfl k_T_17 ?_
  refine x_lcmp (z := lg_cmp (-5) (-5)) (pc' := 13) d_T_join_12 rfl rfl ?_
  refine x_ifne (t := 20) (pc' := 16) d_T_join_13 rfl rfl (fun q => absurd ((lg_cmp_eq _ _).mpr rfl) q) (fun _ => ?_)
  refine x_ldc2_w (x := (-5)) (pc' := 19) d_T_join_16 rfl k_T_17 ?_
  exact x_lreturn d_T_join_19 rfl hQ
theorem c_T_join2 {L : Nat} {xs : Nat → Int32} {d : Nat} {h : xm_H} {Q : xm_Q} {a b : List Nat} (ha : sp_wl a) (hb : sp_wl b) (hn : ¬ a.length + b.length ≤ 8) (hQ : Q (some (.long (-5))) h) : xm_call L xs (d + 2) m_T_join [.long (lN (sp_enc a)), .long (lN (sp_enc b))] h Q := by
  refine x_call (lo := [.long (lN (sp_enc a)), .float 0, .long (lN (sp_enc b)), .float 0, .float 0, .float 0, .float 0, .float 0]) (Nat.le_of_ble_eq_true rfl) rfl ?_
  refine x_lload_n (pc' := 1) d_T_join_0 rfl rfl rfl ?_
  refine x_ldc2_w (x := (-5)) (pc' := 4) d_T_join_1 rfl k_T_17 ?_
  refine x_lcmp (z := lg_cmp (lN (sp_enc a)) (-5)) (pc' := 5) d_T_join_4 rfl rfl ?_
  refine x_ifeq (t := 16) (pc' := 8) d_T_join_5 rfl rfl (fun q => absurd q (fun z => sp_jv5 ha ((lg_cmp_eq _ _).mp z))) (fun _ => ?_)
  refine x_lload_n (pc' := 9) d_T_join_8 rfl rfl rfl ?_
  refine x_ldc2_w (x := (-5)) (pc' := 12) d_T_join_9 rfl k_T_17 ?_
  refine x_lcmp (z := lg_cmp (lN (sp_enc b)) (-5)) (pc' := 13) d_T_join_12 rfl rfl ?_
  refine x_ifne (t := 20) (pc' := 16) d_T_join_13 rfl rfl (fun _ => ?_) (fun q => absurd q (fun z => sp_jv5 hb ((lg_cmp_eq _ _).mp z)))
  refine x_lload_n (pc' := 21) d_T_join_20 rfl rfl rfl ?_
  refine x_static (as := [.long (lN (sp_enc a))]) (r := []) (v := (some (.int (nI a.length)))) (h' := h) (st' := [.int (nI a.length)]) (c' := 0) (s' := 0) (pc' := 24) d_T_join_21 rfl c_T_19 rfl rfl (Nat.le_of_ble_eq_true rfl) (Nat.le_of_ble_eq_true rfl) (Nat.le_of_ble_eq_true rfl) (fun Q' hq => c_T_countOf ha hq) rfl rfl rfl ?_
  refine x_istore (lo' := [.long (lN (sp_enc a)), .float 0, .long (lN (sp_enc b)), .float 0, .int (nI a.length), .float 0, .float 0, .float 0]) (pc' := 26) d_T_join_24 rfl (Nat.le_of_ble_eq_true rfl) rfl ?_
  refine x_iload (pc' := 28) d_T_join_26 rfl rfl ?_
  refine x_lload_n (pc' := 29) d_T_join_28 rfl rfl rfl ?_
  refine x_static (as := [.long (lN (sp_enc b))]) (r := [.int (nI a.length)]) (v := (some (.int (nI b.length)))) (h' := h) (st' := [.int (nI b.length), .int (nI a.length)]) (c' := 0) (s' := 0) (pc' := 32) d_T_join_29 rfl c_T_19 rfl rfl (Nat.le_of_ble_eq_true rfl) (Nat.le_of_ble_eq_true rfl) (Nat.le_of_ble_eq_true rfl) (fun Q' hq => c_T_countOf hb hq) rfl rfl rfl ?_
  refine x_iadd (z := nI (a.length + b.length)) (pc' := 33) d_T_join_32 rfl (nI_add _ _) ?_
  refine x_istore (lo' := [.long (lN (sp_enc a)), .float 0, .long (lN (sp_enc b)), .float 0, .int (nI a.length), .int (nI (a.length + b.length)), .float 0, .float 0]) (pc' := 35) d_T_join_33 rfl (Nat.le_of_ble_eq_true rfl) rfl ?_
  refine x_iload (pc' := 37) d_T_join_35 rfl rfl ?_
  refine x_bipush (v := nI 8) (pc' := 39) d_T_join_37 rfl (by decide) ?_
  refine x_icmple (t := 46) (pc' := 42) d_T_join_39 rfl rfl (fun q => absurd q (nI_ge (by omega) (by have := ha.1; have := hb.1; omega))) (fun _ => ?_)
  refine x_ldc2_w (x := (-5)) (pc' := 45) d_T_join_42 rfl k_T_17 ?_
  exact x_lreturn d_T_join_45 rfl hQ
theorem c_T_join3 {L : Nat} {xs : Nat → Int32} {d : Nat} {h : xm_H} {Q : xm_Q} {a b : List Nat} (ha : sp_wl a) (hb : sp_wl b) (hn : a.length + b.length ≤ 8) (hQ : Q (some (.long (lN (sp_enc (a ++ b))))) h) : xm_call L xs (d + 2) m_T_join [.long (lN (sp_enc a)), .long (lN (sp_enc b))] h Q := by
  have hab := sp_wl_app ha hb hn
  have h1 := sp_dig_lt ha.2
  have h2 := sp_dig32 hab.1 hab.2
  have hor : lN (sp_dig a) ||| lN (sp_dig b * 2 ^ (4 * a.length)) = lN (sp_dig (a ++ b)) := by
    rw [sp_dig_app] at h2
    rw [g_or' (k := 4 * a.length) rfl (by rw [sp_16]; exact h1) (by rw [sp_16]; omega), sp_dig_app, sp_16]
  refine x_call (lo := [.long (lN (sp_enc a)), .float 0, .long (lN (sp_enc b)), .float 0, .float 0, .float 0, .float 0, .float 0]) (Nat.le_of_ble_eq_true rfl) rfl ?_
  refine x_lload_n (pc' := 1) d_T_join_0 rfl rfl rfl ?_
  refine x_ldc2_w (x := (-5)) (pc' := 4) d_T_join_1 rfl k_T_17 ?_
  refine x_lcmp (z := lg_cmp (lN (sp_enc a)) (-5)) (pc' := 5) d_T_join_4 rfl rfl ?_
  refine x_ifeq (t := 16) (pc' := 8) d_T_join_5 rfl rfl (fun q => absurd q (fun z => sp_jv5 ha ((lg_cmp_eq _ _).mp z))) (fun _ => ?_)
  refine x_lload_n (pc' := 9) d_T_join_8 rfl rfl rfl ?_
  refine x_ldc2_w (x := (-5)) (pc' := 12) d_T_join_9 rfl k_T_17 ?_
  refine x_lcmp (z := lg_cmp (lN (sp_enc b)) (-5)) (pc' := 13) d_T_join_12 rfl rfl ?_
  refine x_ifne (t := 20) (pc' := 16) d_T_join_13 rfl rfl (fun _ => ?_) (fun q => absurd q (fun z => sp_jv5 hb ((lg_cmp_eq _ _).mp z)))
  refine x_lload_n (pc' := 21) d_T_join_20 rfl rfl rfl ?_
  refine x_static (as := [.long (lN (sp_enc a))]) (r := []) (v := (some (.int (nI a.length)))) (h' := h) (st' := [.int (nI a.length)]) (c' := 0) (s' := 0) (pc' := 24) d_T_join_21 rfl c_T_19 rfl rfl (Nat.le_of_ble_eq_true rfl) (Nat.le_of_ble_eq_true rfl) (Nat.le_of_ble_eq_true rfl) (fun Q' hq => c_T_countOf ha hq) rfl rfl rfl ?_
  refine x_istore (lo' := [.long (lN (sp_enc a)), .float 0, .long (lN (sp_enc b)), .float 0, .int (nI a.length), .float 0, .float 0, .float 0]) (pc' := 26) d_T_join_24 rfl (Nat.le_of_ble_eq_true rfl) rfl ?_
  refine x_iload (pc' := 28) d_T_join_26 rfl rfl ?_
  refine x_lload_n (pc' := 29) d_T_join_28 rfl rfl rfl ?_
  refine x_static (as := [.long (lN (sp_enc b))]) (r := [.int (nI a.length)]) (v := (some (.int (nI b.length)))) (h' := h) (st' := [.int (nI b.length), .int (nI a.length)]) (c' := 0) (s' := 0) (pc' := 32) d_T_join_29 rfl c_T_19 rfl rfl (Nat.le_of_ble_eq_true rfl) (Nat.le_of_ble_eq_true rfl) (Nat.le_of_ble_eq_true rfl) (fun Q' hq => c_T_countOf hb hq) rfl rfl rfl ?_
  refine x_iadd (z := nI (a.length + b.length)) (pc' := 33) d_T_join_32 rfl (nI_add _ _) ?_
  refine x_istore (lo' := [.long (lN (sp_enc a)), .float 0, .long (lN (sp_enc b)), .float 0, .int (nI a.length), .int (nI (a.length + b.length)), .float 0, .float 0]) (pc' := 35) d_T_join_33 rfl (Nat.le_of_ble_eq_true rfl) rfl ?_
  refine x_iload (pc' := 37) d_T_join_35 rfl rfl ?_
  refine x_bipush (v := nI 8) (pc' := 39) d_T_join_37 rfl (by decide) ?_
  refine x_icmple (t := 46) (pc' := 42) d_T_join_39 rfl rfl (fun _ => ?_) (fun q => absurd (nI_le hn (by decide)) q)
  refine x_lload_n (pc' := 47) d_T_join_46 rfl rfl rfl ?_
  refine x_ldc2_w (x := 4294967295) (pc' := 50) d_T_join_47 rfl k_T_23 ?_
  refine x_land (z := lN (sp_dig b)) (pc' := 51) d_T_join_50 rfl (by rw [show (4294967295 : Int64) = lN (2 ^ 32 - 1) from rfl, wb_mask (sp_enc_64 hb) (by decide), show 2 ^ 32 = 4294967296 from rfl, sp_enc_dig hb]) ?_
  refine x_iconst (v := nI 4) (pc' := 52) d_T_join_51 rfl (by decide) ?_
  refine x_iload (pc' := 54) d_T_join_52 rfl rfl ?_
  refine x_imul (z := nI (4 * a.length)) (pc' := 55) d_T_join_54 rfl (pk_mul 4 _) ?_
  refine x_lshl (z := lN (sp_dig b * 2 ^ (4 * a.length))) (pc' := 56) d_T_join_55 rfl (wb_shl _ (by have := ha.1; omega)) ?_
  refine x_lstore (lo' := [.long (lN (sp_enc a)), .float 0, .long (lN (sp_enc b)), .float 0, .int (nI a.length), .int (nI (a.length + b.length)), .long (lN (sp_dig b * 2 ^ (4 * a.length))), .float 0]) (pc' := 58) d_T_join_56 rfl (Nat.le_of_ble_eq_true rfl) rfl ?_
  refine x_lload_n (pc' := 59) d_T_join_58 rfl rfl rfl ?_
  refine x_ldc2_w (x := 4294967295) (pc' := 62) d_T_join_59 rfl k_T_23 ?_
  refine x_land (z := lN (sp_dig a)) (pc' := 63) d_T_join_62 rfl (by rw [show (4294967295 : Int64) = lN (2 ^ 32 - 1) from rfl, wb_mask (sp_enc_64 ha) (by decide), show 2 ^ 32 = 4294967296 from rfl, sp_enc_dig ha]) ?_
  refine x_lload (pc' := 65) d_T_join_63 rfl rfl rfl ?_
  refine x_lor (z := lN (sp_dig (a ++ b))) (pc' := 66) d_T_join_65 rfl hor ?_
  refine x_iload (pc' := 68) d_T_join_66 rfl rfl ?_
  refine x_static (as := [.long (lN (sp_dig (a ++ b))), .int (nI (a.length + b.length))]) (r := []) (v := (some (.long (lN (sp_enc (a ++ b)))))) (h' := h) (st' := [.long (lN (sp_enc (a ++ b)))]) (c' := 0) (s' := 0) (pc' := 71) d_T_join_68 rfl c_T_13 rfl rfl (Nat.le_of_ble_eq_true rfl) (Nat.le_of_ble_eq_true rfl) (Nat.le_of_ble_eq_true rfl) (fun Q' hq => c_T_pack (m := sp_dig (a ++ b)) (Nat.lt_of_lt_of_le (sp_dig32 hab.1 hab.2) (by decide)) hn (x_ql (by rw [← List.length_append, sp_dec_all hab]) hq)) rfl rfl rfl ?_
  exact x_lreturn d_T_join_71 rfl hQ
theorem c_T_join {L : Nat} {xs : Nat → Int32} {d : Nat} {h : xm_H} {Q : xm_Q} {a b : Option (List Nat)} (ha : sp_wt a) (hb : sp_wt b) (hQ : Q (some (.long (sp_jv (sp_join a b)))) h) : xm_call L xs (d + 2) m_T_join [.long (sp_jv a), .long (sp_jv b)] h Q := by
  cases a with
  | none => exact c_T_join0 hQ
  | some a =>
    have ha := ha a rfl
    cases b with
    | none => exact c_T_join1 (sp_jv5 ha) hQ
    | some b =>
      have hb := hb b rfl
      by_cases hn : a.length + b.length ≤ 8
      · exact c_T_join3 ha hb hn (x_ql (by rw [show sp_join (some a) (some b) = some (a ++ b) from if_pos hn]; rfl) hQ)
      · exact c_T_join2 ha hb hn (x_ql (by rw [show sp_join (some a) (some b) = none from if_neg hn]; rfl) hQ)
def sp_tk (o a b : Int64) : Int64 := if a = o then b else if b = o ∨ b = a then a else -5
theorem c_U_take {L : Nat} {xs : Nat → Int32} {d : Nat} {h : xm_H} {Q : xm_Q} {o a b : Int64} (hQ : Q (some (.long (sp_tk o a b))) h) : xm_call L xs (d + 1) m_U_take [.long o, .long a, .long b] h Q := by
  refine x_call (lo := [.long o, .float 0, .long a, .float 0, .long b, .float 0]) (Nat.le_of_ble_eq_true rfl) rfl ?_
  refine x_lload_n (pc' := 1) d_U_take_0 rfl rfl rfl ?_
  refine x_lload_n (pc' := 2) d_U_take_1 rfl rfl rfl ?_
  refine x_lcmp (z := lg_cmp a o) (pc' := 3) d_U_take_2 rfl rfl ?_
  refine x_ifne (t := 9) (pc' := 6) d_U_take_3 rfl rfl (fun q1 => ?_) (fun q1 => ?_)
  · refine x_lload (pc' := 11) d_U_take_9 rfl rfl rfl ?_
    refine x_lload_n (pc' := 12) d_U_take_11 rfl rfl rfl ?_
    refine x_lcmp (z := lg_cmp b o) (pc' := 13) d_U_take_12 rfl rfl ?_
    refine x_ifeq (t := 23) (pc' := 16) d_U_take_13 rfl rfl (fun q2 => ?_) (fun q2 => ?_)
    · refine x_lload_n (pc' := 24) d_U_take_23 rfl rfl rfl ?_
      refine x_goto (t := 30) d_U_take_24 rfl ?_
      exact x_lreturn d_U_take_30 rfl (x_ql (by unfold sp_tk; rw [if_neg (fun z => q1 ((lg_cmp_eq _ _).mpr z)), if_pos (by first | exact Or.inl ((lg_cmp_eq _ _).mp q2) | exact Or.inr ((lg_cmp_eq _ _).mp q3))]) hQ)
    · refine x_lload (pc' := 18) d_U_take_16 rfl rfl rfl ?_
      refine x_lload_n (pc' := 19) d_U_take_18 rfl rfl rfl ?_
      refine x_lcmp (z := lg_cmp b a) (pc' := 20) d_U_take_19 rfl rfl ?_
      refine x_ifne (t := 27) (pc' := 23) d_U_take_20 rfl rfl (fun q3 => ?_) (fun q3 => ?_)
      · refine x_ldc2_w (x := (-5)) (pc' := 30) d_U_take_27 rfl k_U_37 ?_
        exact x_lreturn d_U_take_30 rfl (x_ql (by unfold sp_tk; rw [if_neg (fun z => q1 ((lg_cmp_eq _ _).mpr z)), if_neg (fun z => z.elim (fun z => q2 ((lg_cmp_eq _ _).mpr z)) (fun z => q3 ((lg_cmp_eq _ _).mpr z)))]) hQ)
      · refine x_lload_n (pc' := 24) d_U_take_23 rfl rfl rfl ?_
        refine x_goto (t := 30) d_U_take_24 rfl ?_
        exact x_lreturn d_U_take_30 rfl (x_ql (by unfold sp_tk; rw [if_neg (fun z => q1 ((lg_cmp_eq _ _).mpr z)), if_pos (by first | exact Or.inl ((lg_cmp_eq _ _).mp q2) | exact Or.inr ((lg_cmp_eq _ _).mp q3))]) hQ)
  · refine x_lload (pc' := 8) d_U_take_6 rfl rfl rfl ?_
    exact x_lreturn d_U_take_8 rfl (x_ql (if_pos ((lg_cmp_eq _ _).mp q1)) hQ)
end
section
/-! The longest shared subsequence by its table; contract of countCommon. (Printed by c_unit.py.) -/
theorem sp_nI_dec (k : Nat) : nI (k + 1) + Int32.ofInt (-1) = nI k := by
  rw [show Int32.ofInt (-1) = -1 by decide]
  exact pk_m1 k
theorem sp_lcg_le (x : Nat) (f : List Nat → Nat) (N : Nat) (hf : ∀ l, f l ≤ N) : ∀ l, sp_lcg x f l ≤ N + 1
  | [] => Nat.zero_le _
  | y :: ys => by
    have h1 := hf ys
    have h2 := hf (y :: ys)
    have h3 := sp_lcg_le x f N hf ys
    unfold sp_lcg
    split
    · omega
    · split <;> omega
theorem sp_lcs_le : ∀ (xs ys : List Nat), sp_lcs xs ys ≤ xs.length
  | [], _ => Nat.le_refl _
  | x :: xs, ys => sp_lcg_le x (sp_lcs xs) xs.length (sp_lcs_le xs) ys
theorem sp_lcs_nil (xs : List Nat) : sp_lcs xs [] = 0 := by cases xs <;> rfl
theorem sp_getD {t : List Nat} {i : Nat} (hi : i < t.length) : t.drop i = t.getD i 0 :: t.drop (i + 1) := by
  rw [List.drop_eq_getElem_cons hi, List.getD_eq_getElem?_getD, List.getElem?_eq_getElem hi]
  rfl
theorem sp_lcs_eq {o a : List Nat} {i j : Nat} (hi : i < o.length) (hj : j < a.length) (h : o.getD i 0 = a.getD j 0) : sp_lcs (o.drop i) (a.drop j) = sp_lcs (o.drop (i + 1)) (a.drop (j + 1)) + 1 := by
  rw [sp_getD hi, sp_getD hj]
  exact if_pos h
theorem sp_lcs_ne {o a : List Nat} {i j : Nat} (hi : i < o.length) (hj : j < a.length) (h : ¬ o.getD i 0 = a.getD j 0) : sp_lcs (o.drop i) (a.drop j) = if sp_lcs (o.drop (i + 1)) (a.drop j) ≥ sp_lcs (o.drop i) (a.drop (j + 1)) then sp_lcs (o.drop (i + 1)) (a.drop j) else sp_lcs (o.drop i) (a.drop (j + 1)) := by
  rw [sp_getD hi, sp_getD hj]
  exact if_neg h
theorem sp_lcs8 {o a : List Nat} (ho : o.length ≤ 8) (i j : Nat) : sp_lcs (o.drop i) (a.drop j) ≤ 8 := Nat.le_trans (sp_lcs_le _ _) (by rw [List.length_drop]; omega)
theorem sp_line16 {t : List Nat} (h : sp_wl t) {i : Nat} (hi : i < t.length) : t.getD i 0 < 16 := by
  rw [List.getD_eq_getElem?_getD, List.getElem?_eq_getElem hi]
  exact h.2 _ (List.getElem_mem hi)
theorem sp_line_eq {o a : List Nat} (ho : sp_wl o) (ha : sp_wl a) {i j : Nat} (hi : i < o.length) (hj : j < a.length) : lg_cmp (lN (o.getD i 0)) (lN (a.getD j 0)) = 0 ↔ o.getD i 0 = a.getD j 0 := by
  have h1 := sp_line16 ho hi
  have h2 := sp_line16 ha hj
  rw [lg_cmp_eq, pk_lEQ (by omega) (by omega)]
abbrev sp_CS : Nat → Prop := fun k => 20 ≤ k ∧ k ≤ 28
/-- the table's rows -/
def ch_C (h : xm_H) (cm : Nat → Nat → Int32) : Prop := ∀ i, i < 9 → h[20 + i]? = some (.inl (.int, 9, .inl (cm i)))
def sp_cu (cm : Nat → Nat → Int32) (i j : Nat) (v : Int32) : Nat → Nat → Int32 := fun x => if x = i then upd (cm i) j v else cm x
theorem ch_C_set {h : xm_H} {cm : Nat → Nat → Int32} (hC : ch_C h cm) {i j : Nat} (hi : i < 9) (v : Int32) : ch_C (h.set (20 + i) (.inl (.int, 9, .inl (upd (cm i) j v)))) (sp_cu cm i j v) := by
  intro x hx
  unfold sp_cu
  by_cases hxi : x = i
  · subst hxi
    rw [if_pos rfl]
    exact xl_at (hC x hx)
  · rw [if_neg hxi, xl_ne (by omega)]
    exact hC x hx
theorem sp_cu_at (cm : Nat → Nat → Int32) (i j : Nat) (v : Int32) : sp_cu cm i j v i j = v := by
  unfold sp_cu upd
  rw [if_pos rfl, if_pos rfl]
theorem sp_cu_ne {cm : Nat → Nat → Int32} {i j x y : Nat} {v : Int32} (h : x ≠ i ∨ y ≠ j) : sp_cu cm i j v x y = cm x y := by
  unfold sp_cu upd
  by_cases hx : x = i
  · subst hx
    rw [if_pos rfl, if_neg (by rcases h with h | h; exact absurd rfl h; exact h)]
  · rw [if_neg hx]
def ch_U0 (h : xm_H) : Prop := h[15]? = some (.inr (2, [.ref 16, .ref 17, .ref 18, .ref 19])) ∧ h[19]? = some (.inl (.array .int, 9, .inr (.inr (.inr (.inr (fun j => some (20 + j)))))))
theorem ch_U0_go {h h' : xm_H} (a : ch_U0 h) (f : xl_fr sp_CS h h') : ch_U0 h' := ⟨(f.2 15 (by intro z; exact absurd z.1 (by decide))).trans a.1, (f.2 19 (by intro z; exact absurd z.1 (by decide))).trans a.2⟩
set_option maxHeartbeats 4000000 in
theorem l_U_cc1 {L : Nat} {xs : Nat → Int32} {d : Nat} {Q : xm_Q} {o a : List Nat} (ho : sp_wl o) (ha : sp_wl a) {i : Nat} (hi : i ≤ o.length) {j : Nat} (hj : j ≤ a.length) {h : xm_H} {cm : Nat → Nat → Int32} (hU : ch_U0 h) (hC : ch_C h cm) (hR : ∀ x y, i < x → x ≤ o.length → y ≤ a.length → cm x y = nI (sp_lcs (o.drop x) (a.drop y))) (hJ : ∀ y, j < y → y ≤ a.length → cm i y = nI (sp_lcs (o.drop i) (a.drop y)))
    (tail : ∀ v, v = nI (sp_lcs (o.drop i) (a.drop j)) → xm_X L xs (xm_call L xs (d + 1)) m_U_countCommon (140, [.ref 15, .long (lN (sp_enc o)), .float 0, .long (lN (sp_enc a)), .float 0, .int (nI o.length), .int (nI a.length), .int (nI i), .int (nI j)], [], (h.set (20 + i) (.inl (.int, 9, .inl (upd (cm i) (nI j).toNatClampNeg (v))))), 0, 0) Q) :
    xm_X L xs (xm_call L xs (d + 1)) m_U_countCommon (25, [.ref 15, .long (lN (sp_enc o)), .float 0, .long (lN (sp_enc a)), .float 0, .int (nI o.length), .int (nI a.length), .int (nI i), .int (nI j)], [], h, 0, 0) Q := by
  have l8 := ho.1
  have m8 := ha.1
  refine x_iload (pc' := 27) d_U_countCommon_25 rfl rfl ?_
  refine x_iflt (t := 146) (pc' := 30) d_U_countCommon_27 rfl rfl (fun q => absurd q (nI_pos (by omega))) (fun _ => ?_)
  refine x_iload (pc' := 32) d_U_countCommon_30 rfl rfl ?_
  refine x_iload (pc' := 34) d_U_countCommon_32 rfl rfl ?_
  refine x_icmpeq (t := 44) (pc' := 37) d_U_countCommon_34 rfl rfl (fun q1 => ?_) (fun q1 => ?_)
  · refine x_aload_n (pc' := 45) d_U_countCommon_44 rfl rfl ?_
    refine x_getfield (ci := 2) (i := 3) (v := .ref 19) (pc' := 48) d_U_countCommon_45 rfl g_U_24 hU.1 rfl ?_
    refine x_iload (pc' := 50) d_U_countCommon_48 rfl rfl ?_
    refine x_aaload (q := (20 + i)) (pc' := 51) d_U_countCommon_50 rfl hU.2 (Or.inl rfl) (vp_in_nI (by omega) (by decide)) (by rw [nI_clamp (by omega)]) ?_
    refine x_iload (pc' := 53) d_U_countCommon_51 rfl rfl ?_
    refine x_iconst (v := nI 0) (pc' := 54) d_U_countCommon_53 rfl (by decide) ?_
    refine x_iastore (h' := (h.set (20 + i) (.inl (.int, 9, .inl (upd (cm i) (nI j).toNatClampNeg (nI 0)))))) (pc' := 55) d_U_countCommon_54 rfl (hC i (by omega)) (vp_in_nI (by omega) (by decide)) rfl ?_
    refine x_goto (t := 140) d_U_countCommon_55 rfl ?_
    exact tail _ (by rw [sp_nI_inj (by omega) (by omega) q1, List.drop_length]; rfl)
  · refine x_iload (pc' := 39) d_U_countCommon_37 rfl rfl ?_
    refine x_iload (pc' := 41) d_U_countCommon_39 rfl rfl ?_
    refine x_icmpne (t := 58) (pc' := 44) d_U_countCommon_41 rfl rfl (fun q2 => ?_) (fun q2 => ?_)
    · have hin : i < o.length := Nat.lt_of_le_of_ne hi (fun e => q1 (by rw [e]))
      have hjm : j < a.length := Nat.lt_of_le_of_ne hj (fun e => q2 (by rw [e]))
      refine x_lload_n (pc' := 59) d_U_countCommon_58 rfl rfl rfl ?_
      refine x_iload (pc' := 61) d_U_countCommon_59 rfl rfl ?_
      refine x_static (as := [.long (lN (sp_enc o)), .int (nI i)]) (r := []) (v := (some (.long (lN (o.getD i 0))))) (h' := h) (st' := [.long (lN (o.getD i 0))]) (c' := 0) (s' := 0) (pc' := 64) d_U_countCommon_61 rfl c_U_66 rfl rfl (Nat.le_of_ble_eq_true rfl) (Nat.le_of_ble_eq_true rfl) (Nat.le_of_ble_eq_true rfl) (fun Q' hq => c_T_lineAt ho hin hq) rfl rfl rfl ?_
      refine x_lload_n (pc' := 65) d_U_countCommon_64 rfl rfl rfl ?_
      refine x_iload (pc' := 67) d_U_countCommon_65 rfl rfl ?_
      refine x_static (as := [.long (lN (sp_enc a)), .int (nI j)]) (r := [.long (lN (o.getD i 0))]) (v := (some (.long (lN (a.getD j 0))))) (h' := h) (st' := [.long (lN (a.getD j 0)), .long (lN (o.getD i 0))]) (c' := 0) (s' := 0) (pc' := 70) d_U_countCommon_67 rfl c_U_66 rfl rfl (Nat.le_of_ble_eq_true rfl) (Nat.le_of_ble_eq_true rfl) (Nat.le_of_ble_eq_true rfl) (fun Q' hq => c_T_lineAt ha hjm hq) rfl rfl rfl ?_
      refine x_lcmp (z := lg_cmp (lN (o.getD i 0)) (lN (a.getD j 0))) (pc' := 71) d_U_countCommon_70 rfl rfl ?_
      refine x_ifne (t := 103) (pc' := 74) d_U_countCommon_71 rfl rfl (fun q3 => ?_) (fun q3 => ?_)
      · have hmax : (if nI (sp_lcs (o.drop (i + 1)) (a.drop j)) < nI (sp_lcs (o.drop i) (a.drop (j + 1))) then nI (sp_lcs (o.drop i) (a.drop (j + 1))) else nI (sp_lcs (o.drop (i + 1)) (a.drop j))) = nI (sp_lcs (o.drop i) (a.drop j)) := by
          have c1 := sp_lcs8 (a := a) ho.1 (i + 1) j
          have c2 := sp_lcs8 (a := a) ho.1 i (j + 1)
          rw [sp_lcs_ne hin hjm (fun z => q3 ((sp_line_eq ho ha hin hjm).mpr z))]
          by_cases hlt : sp_lcs (o.drop (i + 1)) (a.drop j) < sp_lcs (o.drop i) (a.drop (j + 1))
          · rw [if_pos (nI_lt hlt (by omega)), if_neg (by omega)]
          · rw [if_neg (nI_nlt (by omega) (by omega)), if_pos (by omega)]
        refine x_aload_n (pc' := 104) d_U_countCommon_103 rfl rfl ?_
        refine x_getfield (ci := 2) (i := 3) (v := .ref 19) (pc' := 107) d_U_countCommon_104 rfl g_U_24 hU.1 rfl ?_
        refine x_iload (pc' := 109) d_U_countCommon_107 rfl rfl ?_
        refine x_aaload (q := (20 + i)) (pc' := 110) d_U_countCommon_109 rfl hU.2 (Or.inl rfl) (vp_in_nI (by omega) (by decide)) (by rw [nI_clamp (by omega)]) ?_
        refine x_iload (pc' := 112) d_U_countCommon_110 rfl rfl ?_
        refine x_aload_n (pc' := 113) d_U_countCommon_112 rfl rfl ?_
        refine x_getfield (ci := 2) (i := 3) (v := .ref 19) (pc' := 116) d_U_countCommon_113 rfl g_U_24 hU.1 rfl ?_
        refine x_iload (pc' := 118) d_U_countCommon_116 rfl rfl ?_
        refine x_iconst (v := nI 1) (pc' := 119) d_U_countCommon_118 rfl (by decide) ?_
        refine x_iadd (z := nI (i + 1)) (pc' := 120) d_U_countCommon_119 rfl (nI_add _ _) ?_
        refine x_aaload (q := (20 + (i + 1))) (pc' := 121) d_U_countCommon_120 rfl hU.2 (Or.inl rfl) (vp_in_nI (by omega) (by decide)) (by rw [nI_clamp (by omega)]) ?_
        refine x_iload (pc' := 123) d_U_countCommon_121 rfl rfl ?_
        refine x_iaload (v := nI (sp_lcs (o.drop (i + 1)) (a.drop j))) (pc' := 124) d_U_countCommon_123 rfl (hC (i + 1) (by omega)) (vp_in_nI (by omega) (by decide)) (by rw [nI_clamp (by omega)]; exact hR (i + 1) j (by omega) (by omega) (by omega)) ?_
        refine x_aload_n (pc' := 125) d_U_countCommon_124 rfl rfl ?_
        refine x_getfield (ci := 2) (i := 3) (v := .ref 19) (pc' := 128) d_U_countCommon_125 rfl g_U_24 hU.1 rfl ?_
        refine x_iload (pc' := 130) d_U_countCommon_128 rfl rfl ?_
        refine x_aaload (q := (20 + i)) (pc' := 131) d_U_countCommon_130 rfl hU.2 (Or.inl rfl) (vp_in_nI (by omega) (by decide)) (by rw [nI_clamp (by omega)]) ?_
        refine x_iload (pc' := 133) d_U_countCommon_131 rfl rfl ?_
        refine x_iconst (v := nI 1) (pc' := 134) d_U_countCommon_133 rfl (by decide) ?_
        refine x_iadd (z := nI (j + 1)) (pc' := 135) d_U_countCommon_134 rfl (nI_add _ _) ?_
        refine x_iaload (v := nI (sp_lcs (o.drop i) (a.drop (j + 1)))) (pc' := 136) d_U_countCommon_135 rfl (hC i (by omega)) (vp_in_nI (by omega) (by decide)) (by rw [nI_clamp (by omega)]; exact hJ (j + 1) (by omega) (by omega)) ?_
        refine x_mmax (z := nI (sp_lcs (o.drop i) (a.drop j))) (pc' := 139) d_U_countCommon_136 rfl c_U_70 (Nat.le_of_ble_eq_true rfl) hmax ?_
        refine x_iastore (h' := (h.set (20 + i) (.inl (.int, 9, .inl (upd (cm i) (nI j).toNatClampNeg (nI (sp_lcs (o.drop i) (a.drop j)))))))) (pc' := 140) d_U_countCommon_139 rfl (hC i (by omega)) (vp_in_nI (by omega) (by decide)) rfl ?_
        exact tail _ rfl
      · refine x_aload_n (pc' := 75) d_U_countCommon_74 rfl rfl ?_
        refine x_getfield (ci := 2) (i := 3) (v := .ref 19) (pc' := 78) d_U_countCommon_75 rfl g_U_24 hU.1 rfl ?_
        refine x_iload (pc' := 80) d_U_countCommon_78 rfl rfl ?_
        refine x_aaload (q := (20 + i)) (pc' := 81) d_U_countCommon_80 rfl hU.2 (Or.inl rfl) (vp_in_nI (by omega) (by decide)) (by rw [nI_clamp (by omega)]) ?_
        refine x_iload (pc' := 83) d_U_countCommon_81 rfl rfl ?_
        refine x_aload_n (pc' := 84) d_U_countCommon_83 rfl rfl ?_
        refine x_getfield (ci := 2) (i := 3) (v := .ref 19) (pc' := 87) d_U_countCommon_84 rfl g_U_24 hU.1 rfl ?_
        refine x_iload (pc' := 89) d_U_countCommon_87 rfl rfl ?_
        refine x_iconst (v := nI 1) (pc' := 90) d_U_countCommon_89 rfl (by decide) ?_
        refine x_iadd (z := nI (i + 1)) (pc' := 91) d_U_countCommon_90 rfl (nI_add _ _) ?_
        refine x_aaload (q := (20 + (i + 1))) (pc' := 92) d_U_countCommon_91 rfl hU.2 (Or.inl rfl) (vp_in_nI (by omega) (by decide)) (by rw [nI_clamp (by omega)]) ?_
        refine x_iload (pc' := 94) d_U_countCommon_92 rfl rfl ?_
        refine x_iconst (v := nI 1) (pc' := 95) d_U_countCommon_94 rfl (by decide) ?_
        refine x_iadd (z := nI (j + 1)) (pc' := 96) d_U_countCommon_95 rfl (nI_add _ _) ?_
        refine x_iaload (v := nI (sp_lcs (o.drop (i + 1)) (a.drop (j + 1)))) (pc' := 97) d_U_countCommon_96 rfl (hC (i + 1) (by omega)) (vp_in_nI (by omega) (by decide)) (by rw [nI_clamp (by omega)]; exact hR (i + 1) (j + 1) (by omega) (by omega) (by omega)) ?_
        refine x_iconst (v := nI 1) (pc' := 98) d_U_countCommon_97 rfl (by decide) ?_
        refine x_iadd (z := nI (sp_lcs (o.drop (i + 1)) (a.drop (j + 1)) + 1)) (pc' := 99) d_U_countCommon_98 rfl (nI_add _ _) ?_
        refine x_iastore (h' := (h.set (20 + i) (.inl (.int, 9, .inl (upd (cm i) (nI j).toNatClampNeg (nI (sp_lcs (o.drop (i + 1)) (a.drop (j + 1)) + 1))))))) (pc' := 100) d_U_countCommon_99 rfl (hC i (by omega)) (vp_in_nI (by omega) (by decide)) rfl ?_
        refine x_goto (t := 140) d_U_countCommon_100 rfl ?_
        exact tail _ (by rw [sp_lcs_eq hin hjm ((sp_line_eq ho ha hin hjm).mp q3)])
    · refine x_aload_n (pc' := 45) d_U_countCommon_44 rfl rfl ?_
      refine x_getfield (ci := 2) (i := 3) (v := .ref 19) (pc' := 48) d_U_countCommon_45 rfl g_U_24 hU.1 rfl ?_
      refine x_iload (pc' := 50) d_U_countCommon_48 rfl rfl ?_
      refine x_aaload (q := (20 + i)) (pc' := 51) d_U_countCommon_50 rfl hU.2 (Or.inl rfl) (vp_in_nI (by omega) (by decide)) (by rw [nI_clamp (by omega)]) ?_
      refine x_iload (pc' := 53) d_U_countCommon_51 rfl rfl ?_
      refine x_iconst (v := nI 0) (pc' := 54) d_U_countCommon_53 rfl (by decide) ?_
      refine x_iastore (h' := (h.set (20 + i) (.inl (.int, 9, .inl (upd (cm i) (nI j).toNatClampNeg (nI 0)))))) (pc' := 55) d_U_countCommon_54 rfl (hC i (by omega)) (vp_in_nI (by omega) (by decide)) rfl ?_
      refine x_goto (t := 140) d_U_countCommon_55 rfl ?_
      exact tail _ (by rw [sp_nI_inj (by omega) (by omega) q2, List.drop_length, sp_lcs_nil])
theorem l_U_cc2 {L : Nat} {xs : Nat → Int32} {d : Nat} {Q : xm_Q} {o a : List Nat} (ho : sp_wl o) (ha : sp_wl a) {i : Nat} (hi : i ≤ o.length) {h0 : xm_H} (hU0 : ch_U0 h0)
    (K : ∀ (h : xm_H) (cm : Nat → Nat → Int32), xl_fr sp_CS h0 h → ch_C h cm → (∀ x y, i ≤ x → x ≤ o.length → y ≤ a.length → cm x y = nI (sp_lcs (o.drop x) (a.drop y))) → xm_X L xs (xm_call L xs (d + 1)) m_U_countCommon (146, [.ref 15, .long (lN (sp_enc o)), .float 0, .long (lN (sp_enc a)), .float 0, .int (nI o.length), .int (nI a.length), .int (nI i), .int (-1)], [], h, 0, 0) Q) :
    ∀ (j : Nat), j ≤ a.length → ∀ (h : xm_H) (cm : Nat → Nat → Int32), xl_fr sp_CS h0 h → ch_C h cm → (∀ x y, i < x → x ≤ o.length → y ≤ a.length → cm x y = nI (sp_lcs (o.drop x) (a.drop y))) → (∀ y, j < y → y ≤ a.length → cm i y = nI (sp_lcs (o.drop i) (a.drop y))) →
      xm_X L xs (xm_call L xs (d + 1)) m_U_countCommon (25, [.ref 15, .long (lN (sp_enc o)), .float 0, .long (lN (sp_enc a)), .float 0, .int (nI o.length), .int (nI a.length), .int (nI i), .int (nI j)], [], h, 0, 0) Q := by
  have l8 := ho.1
  have m8 := ha.1
  intro j
  induction j with
  | zero =>
    intro hj h cm hf hC hR hJ
    have hU := ch_U0_go hU0 hf
    refine l_U_cc1 ho ha hi hj hU hC hR hJ (fun v hv => ?_)
    have hC1 := ch_C_set hC (i := i) (j := (nI 0).toNatClampNeg) (by omega) v
    have hf1 : xl_fr sp_CS h0 (h.set (20 + i) (.inl (.int, 9, .inl (upd (cm i) (nI 0).toNatClampNeg (v))))) := xl_tr hf (xl_set ⟨by omega, by omega⟩)
    have hT : ∀ x y, i ≤ x → x ≤ o.length → y ≤ a.length → sp_cu cm i (nI 0).toNatClampNeg v x y = nI (sp_lcs (o.drop x) (a.drop y)) := by
      intro x y h1 h2 h3
      rw [nI_clamp (n := 0) (by decide)]
      by_cases hx : x = i
      · subst hx
        by_cases hy : y = 0
        · subst hy
          rw [sp_cu_at, hv]
        · rw [sp_cu_ne (Or.inr hy)]
          exact hJ y (by omega) h3
      · rw [sp_cu_ne (Or.inl hx)]
        exact hR x y (by omega) h2 h3
    refine x_iinc (y := (-1)) (lo' := [.ref 15, .long (lN (sp_enc o)), .float 0, .long (lN (sp_enc a)), .float 0, .int (nI o.length), .int (nI a.length), .int (nI i), .int (-1)]) (pc' := 143) d_U_countCommon_140 rfl rfl (by decide) rfl ?_
    refine x_goto (t := 25) d_U_countCommon_143 rfl ?_
    refine x_iload (pc' := 27) d_U_countCommon_25 rfl rfl ?_
    refine x_iflt (t := 146) (pc' := 30) d_U_countCommon_27 rfl rfl (fun _ => ?_) (fun q => absurd (by decide) q)
    exact K _ _ hf1 hC1 hT
  | succ j ih =>
    intro hj h cm hf hC hR hJ
    have hU := ch_U0_go hU0 hf
    refine l_U_cc1 ho ha hi hj hU hC hR hJ (fun v hv => ?_)
    have hC1 := ch_C_set hC (i := i) (j := (nI (j + 1)).toNatClampNeg) (by omega) v
    have hf1 : xl_fr sp_CS h0 (h.set (20 + i) (.inl (.int, 9, .inl (upd (cm i) (nI (j + 1)).toNatClampNeg (v))))) := xl_tr hf (xl_set ⟨by omega, by omega⟩)
    refine x_iinc (y := nI j) (lo' := [.ref 15, .long (lN (sp_enc o)), .float 0, .long (lN (sp_enc a)), .float 0, .int (nI o.length), .int (nI a.length), .int (nI i), .int (nI j)]) (pc' := 143) d_U_countCommon_140 rfl rfl (sp_nI_dec j) rfl ?_
    refine x_goto (t := 25) d_U_countCommon_143 rfl ?_
    refine ih (by omega) _ _ hf1 hC1 (fun x y h1 h2 h3 => ?_) (fun y h1 h2 => ?_)
    · rw [sp_cu_ne (Or.inl (by omega))]
      exact hR x y (by omega) h2 h3
    · rw [nI_clamp (n := j + 1) (by omega)]
      by_cases hy : y = j + 1
      · subst hy
        rw [sp_cu_at, hv]
      · rw [sp_cu_ne (Or.inr hy)]
        exact hJ y (by omega) h2
theorem l_U_cc3 {L : Nat} {xs : Nat → Int32} {d : Nat} {Q : xm_Q} {o a : List Nat} (ho : sp_wl o) (ha : sp_wl a) {h0 : xm_H} (hU0 : ch_U0 h0)
    (hQ : ∀ (h : xm_H) (cm : Nat → Nat → Int32), xl_fr sp_CS h0 h → ch_C h cm → (∀ x y, x ≤ o.length → y ≤ a.length → cm x y = nI (sp_lcs (o.drop x) (a.drop y))) → Q none h) :
    ∀ (i : Nat), i ≤ o.length → ∀ (h : xm_H) (cm : Nat → Nat → Int32) (z : Int32), xl_fr sp_CS h0 h → ch_C h cm → (∀ x y, i < x → x ≤ o.length → y ≤ a.length → cm x y = nI (sp_lcs (o.drop x) (a.drop y))) →
      xm_X L xs (xm_call L xs (d + 1)) m_U_countCommon (16, [.ref 15, .long (lN (sp_enc o)), .float 0, .long (lN (sp_enc a)), .float 0, .int (nI o.length), .int (nI a.length), .int (nI i), .int z], [], h, 0, 0) Q := by
  have l8 := ho.1
  have m8 := ha.1
  intro i
  induction i with
  | zero =>
    intro hi h cm z hf hC hR
    have hU := ch_U0_go hU0 hf
    refine x_iload (pc' := 18) d_U_countCommon_16 rfl rfl ?_
    refine x_iflt (t := 152) (pc' := 21) d_U_countCommon_18 rfl rfl (fun q => absurd q (nI_pos (by omega))) (fun _ => ?_)
    refine x_iload (pc' := 23) d_U_countCommon_21 rfl rfl ?_
    refine x_istore (lo' := [.ref 15, .long (lN (sp_enc o)), .float 0, .long (lN (sp_enc a)), .float 0, .int (nI o.length), .int (nI a.length), .int (nI 0), .int (nI a.length)]) (pc' := 25) d_U_countCommon_23 rfl (Nat.le_of_ble_eq_true rfl) rfl ?_
    refine l_U_cc2 ho ha hi hU0 (fun h1 cm1 hf1 hC1 hT1 => ?_) a.length (Nat.le_refl _) h cm hf hC hR (fun y h1 h2 => absurd h1 (by omega))
    refine x_iinc (y := (-1)) (lo' := [.ref 15, .long (lN (sp_enc o)), .float 0, .long (lN (sp_enc a)), .float 0, .int (nI o.length), .int (nI a.length), .int (-1), .int (-1)]) (pc' := 149) d_U_countCommon_146 rfl rfl (by decide) rfl ?_
    refine x_goto (t := 16) d_U_countCommon_149 rfl ?_
    refine x_iload (pc' := 18) d_U_countCommon_16 rfl rfl ?_
    refine x_iflt (t := 152) (pc' := 21) d_U_countCommon_18 rfl rfl (fun _ => ?_) (fun q => absurd (by decide) q)
    exact x_return d_U_countCommon_152 rfl (hQ _ _ hf1 hC1 (fun x y h1 h2 => hT1 x y (Nat.zero_le _) h1 h2))
  | succ i ih =>
    intro hi h cm z hf hC hR
    have hU := ch_U0_go hU0 hf
    refine x_iload (pc' := 18) d_U_countCommon_16 rfl rfl ?_
    refine x_iflt (t := 152) (pc' := 21) d_U_countCommon_18 rfl rfl (fun q => absurd q (nI_pos (by omega))) (fun _ => ?_)
    refine x_iload (pc' := 23) d_U_countCommon_21 rfl rfl ?_
    refine x_istore (lo' := [.ref 15, .long (lN (sp_enc o)), .float 0, .long (lN (sp_enc a)), .float 0, .int (nI o.length), .int (nI a.length), .int (nI (i + 1)), .int (nI a.length)]) (pc' := 25) d_U_countCommon_23 rfl (Nat.le_of_ble_eq_true rfl) rfl ?_
    refine l_U_cc2 ho ha hi hU0 (fun h1 cm1 hf1 hC1 hT1 => ?_) a.length (Nat.le_refl _) h cm hf hC hR (fun y h1 h2 => absurd h1 (by omega))
    refine x_iinc (y := nI i) (lo' := [.ref 15, .long (lN (sp_enc o)), .float 0, .long (lN (sp_enc a)), .float 0, .int (nI o.length), .int (nI a.length), .int (nI i), .int (-1)]) (pc' := 149) d_U_countCommon_146 rfl rfl (sp_nI_dec i) rfl ?_
    refine x_goto (t := 16) d_U_countCommon_149 rfl ?_
    exact ih (by omega) h1 cm1 _ hf1 hC1 (fun x y h2 h3 h4 => hT1 x y h2 h3 h4)
theorem l_U_cc4 {L : Nat} {xs : Nat → Int32} {d : Nat} {Q : xm_Q} {o a : List Nat} {h : xm_H} {cm : Nat → Nat → Int32} (hi : o.length ≤ 8) (hU : ch_U0 h) (hC : ch_C h cm)
    (k : xm_X L xs (xm_call L xs (d + 1)) m_U_countCommon (25, [.ref 15, .long (lN (sp_enc o)), .float 0, .long (lN (sp_enc a)), .float 0, .int (nI o.length), .int (nI a.length), .int (nI o.length), .int (nI a.length)], [], h, 0, 0) Q) : xm_X L xs (xm_call L xs (d + 1)) m_U_countCommon (16, [.ref 15, .long (lN (sp_enc o)), .float 0, .long (lN (sp_enc a)), .float 0, .int (nI o.length), .int (nI a.length), .int (nI o.length), .float 0], [], h, 0, 0) Q := by
  refine x_iload (pc' := 18) d_U_countCommon_16 rfl rfl ?_
  refine x_iflt (t := 152) (pc' := 21) d_U_countCommon_18 rfl rfl (fun q => absurd q (nI_pos (by omega))) (fun _ => ?_)
  refine x_iload (pc' := 23) d_U_countCommon_21 rfl rfl ?_
  refine x_istore (lo' := [.ref 15, .long (lN (sp_enc o)), .float 0, .long (lN (sp_enc a)), .float 0, .int (nI o.length), .int (nI a.length), .int (nI o.length), .int (nI a.length)]) (pc' := 25) d_U_countCommon_23 rfl (Nat.le_of_ble_eq_true rfl) rfl ?_
  exact k
theorem c_U_countCommon {L : Nat} {xs : Nat → Int32} {d : Nat} {Q : xm_Q} {o a : List Nat} {h : xm_H} {cm : Nat → Nat → Int32} (ho : sp_wl o) (ha : sp_wl a) (hU : ch_U0 h) (hC : ch_C h cm)
    (hQ : ∀ (h' : xm_H) (cm' : Nat → Nat → Int32), xl_fr sp_CS h h' → ch_C h' cm' → (∀ x y, x ≤ o.length → y ≤ a.length → cm' x y = nI (sp_lcs (o.drop x) (a.drop y))) → Q none h') : xm_call L xs (d + 2) m_U_countCommon [.ref 15, .long (lN (sp_enc o)), .long (lN (sp_enc a))] h Q := by
  have l8 := ho.1
  refine x_call (lo := [.ref 15, .long (lN (sp_enc o)), .float 0, .long (lN (sp_enc a)), .float 0, .float 0, .float 0, .float 0, .float 0]) (Nat.le_of_ble_eq_true rfl) rfl ?_
  refine x_lload_n (pc' := 1) d_U_countCommon_0 rfl rfl rfl ?_
  refine x_static (as := [.long (lN (sp_enc o))]) (r := []) (v := (some (.int (nI o.length)))) (h' := h) (st' := [.int (nI o.length)]) (c' := 0) (s' := 0) (pc' := 4) d_U_countCommon_1 rfl c_U_52 rfl rfl (Nat.le_of_ble_eq_true rfl) (Nat.le_of_ble_eq_true rfl) (Nat.le_of_ble_eq_true rfl) (fun Q' hq => c_T_countOf ho hq) rfl rfl rfl ?_
  refine x_istore (lo' := [.ref 15, .long (lN (sp_enc o)), .float 0, .long (lN (sp_enc a)), .float 0, .int (nI o.length), .float 0, .float 0, .float 0]) (pc' := 6) d_U_countCommon_4 rfl (Nat.le_of_ble_eq_true rfl) rfl ?_
  refine x_lload_n (pc' := 7) d_U_countCommon_6 rfl rfl rfl ?_
  refine x_static (as := [.long (lN (sp_enc a))]) (r := []) (v := (some (.int (nI a.length)))) (h' := h) (st' := [.int (nI a.length)]) (c' := 0) (s' := 0) (pc' := 10) d_U_countCommon_7 rfl c_U_52 rfl rfl (Nat.le_of_ble_eq_true rfl) (Nat.le_of_ble_eq_true rfl) (Nat.le_of_ble_eq_true rfl) (fun Q' hq => c_T_countOf ha hq) rfl rfl rfl ?_
  refine x_istore (lo' := [.ref 15, .long (lN (sp_enc o)), .float 0, .long (lN (sp_enc a)), .float 0, .int (nI o.length), .int (nI a.length), .float 0, .float 0]) (pc' := 12) d_U_countCommon_10 rfl (Nat.le_of_ble_eq_true rfl) rfl ?_
  refine x_iload (pc' := 14) d_U_countCommon_12 rfl rfl ?_
  refine x_istore (lo' := [.ref 15, .long (lN (sp_enc o)), .float 0, .long (lN (sp_enc a)), .float 0, .int (nI o.length), .int (nI a.length), .int (nI o.length), .float 0]) (pc' := 16) d_U_countCommon_14 rfl (Nat.le_of_ble_eq_true rfl) rfl ?_
  refine l_U_cc4 l8 hU hC ?_
  obtain ⟨n, hn⟩ : ∃ n, n = o.length := ⟨_, rfl⟩
  refine l_U_cc2 ho ha (Nat.le_refl _) hU (fun h1 cm1 hf1 hC1 hT1 => ?_) a.length (Nat.le_refl _) h cm xl_rf hC (fun x y h1 h2 h3 => absurd h1 (by omega)) (fun y h1 h2 => absurd h1 (by omega))
  cases hl : o.length with
  | zero =>
    rw [hl] at hT1
    refine x_iinc (y := (-1)) (lo' := [.ref 15, .long (lN (sp_enc o)), .float 0, .long (lN (sp_enc a)), .float 0, .int (nI 0), .int (nI a.length), .int (-1), .int (-1)]) (pc' := 149) d_U_countCommon_146 rfl rfl (by decide) rfl ?_
    refine x_goto (t := 16) d_U_countCommon_149 rfl ?_
    refine x_iload (pc' := 18) d_U_countCommon_16 rfl rfl ?_
    refine x_iflt (t := 152) (pc' := 21) d_U_countCommon_18 rfl rfl (fun _ => ?_) (fun q => absurd (by decide) q)
    exact x_return d_U_countCommon_152 rfl (hQ _ _ hf1 hC1 (fun x y h1 h2 => hT1 x y (Nat.zero_le _) (by rw [hl] at h1; exact h1) h2))
  | succ i =>
    rw [hl] at hT1
    rw [← hl]
    refine x_iinc (y := nI i) (lo' := [.ref 15, .long (lN (sp_enc o)), .float 0, .long (lN (sp_enc a)), .float 0, .int (nI o.length), .int (nI a.length), .int (nI i), .int (-1)]) (pc' := 149) d_U_countCommon_146 rfl rfl (by rw [hl]; exact sp_nI_dec i) rfl ?_
    refine x_goto (t := 16) d_U_countCommon_149 rfl ?_
    exact l_U_cc3 ho ha hU hQ i (by omega) h1 cm1 _ hf1 hC1 (fun x y h2 h3 h4 => hT1 x y h2 (by rw [← hl]; exact h3) h4)
end
section
/-! Which line is matched with which; contract of matchLines. (Printed by c_match.py.) -/
def sp_mv1 (x : Option Nat) : Int32 := match x with
  | none => -1
  | some j => nI j
theorem sp_mt_nil : ∀ (xs : List Nat) (j k : Nat), (sp_mt xs [] j).getD k none = none
  | [], _, _ => by simp [sp_mt]
  | x :: xs, j, 0 => rfl
  | x :: xs, j, k + 1 => by
    show (none :: sp_mt xs [] j).getD (k + 1) none = none
    rw [List.getD_cons_succ]
    exact sp_mt_nil xs j k
theorem sp_mt_eq {o a : List Nat} {i j : Nat} (hi : i < o.length) (hj : j < a.length) (h : o.getD i 0 = a.getD j 0) : sp_mt (o.drop i) (a.drop j) j = some j :: sp_mt (o.drop (i + 1)) (a.drop (j + 1)) (j + 1) := by
  rw [sp_getD hi, sp_getD hj]
  exact if_pos h
theorem sp_mt_up {o a : List Nat} {i j : Nat} (hi : i < o.length) (hj : j < a.length) (h : ¬ o.getD i 0 = a.getD j 0) (h2 : sp_lcs (o.drop (i + 1)) (a.drop j) ≥ sp_lcs (o.drop i) (a.drop (j + 1))) : sp_mt (o.drop i) (a.drop j) j = none :: sp_mt (o.drop (i + 1)) (a.drop j) j := by
  rw [sp_getD hi, sp_getD hj] at h2 ⊢
  exact (if_neg h).trans (if_pos h2)
theorem sp_mt_right {o a : List Nat} {i j : Nat} (hi : i < o.length) (hj : j < a.length) (h : ¬ o.getD i 0 = a.getD j 0) (h2 : ¬ sp_lcs (o.drop (i + 1)) (a.drop j) ≥ sp_lcs (o.drop i) (a.drop (j + 1))) : sp_mt (o.drop i) (a.drop j) j = sp_mt (o.drop i) (a.drop (j + 1)) (j + 1) := by
  rw [sp_getD hj] at h2 ⊢
  rw [sp_getD hi] at h2 ⊢
  exact (if_neg h).trans (if_neg h2)
theorem sp_drop_cons {α : Type} {M : List α} {i : Nat} {x y : α} {r : List α} (h : M.drop i = x :: r) : M.getD i y = x ∧ M.drop (i + 1) = r := by
  have hl : i < M.length := by
    rcases Nat.lt_or_ge i M.length with h1 | h1
    · exact h1
    · rw [List.drop_eq_nil_of_le h1] at h
      cases h
  rw [List.drop_eq_getElem_cons hl] at h
  obtain ⟨h1, h2⟩ := List.cons.inj h
  exact ⟨by rw [List.getD_eq_getElem?_getD, List.getElem?_eq_getElem hl, h1]; rfl, h2⟩
theorem sp_getD_drop {α : Type} (M : List α) (i k : Nat) (y : α) : M.getD (i + k) y = (M.drop i).getD k y := by
  rw [List.getD_eq_getElem?_getD, List.getD_eq_getElem?_getD, List.getElem?_drop]
theorem xl_self {h : xm_H} {q : Nat} {c : xm_C} (hq : h[q]? = some c) : h.set q c = h := by
  apply List.ext_getElem?
  intro k
  by_cases hk : q = k
  · subst hk
    rw [xl_at hq, hq]
  · rw [xl_ne hk]
theorem ch_C_go {h h' : xm_H} {cm : Nat → Nat → Int32} (a : ch_C h cm) (f : ∀ k, 20 ≤ k → k ≤ 28 → h'[k]? = h[k]?) : ch_C h' cm := fun i hi => (f (20 + i) (by omega) (by omega)).trans (a i hi)
theorem l_U_ml1 {L : Nat} {xs : Nat → Int32} {d : Nat} {Q : xm_Q} {o a : List Nat} (l8 : o.length ≤ 8) {p : Nat} {h : xm_H} {c0 : xm_C} (hp : h[p]? = some c0)
    (K : ∀ f : Nat → Int32, (∀ k, k < o.length → f k = -1) → xm_X L xs (xm_call L xs (d + 1)) m_U_matchLines (34, [.ref 15, .long (lN (sp_enc o)), .float 0, .long (lN (sp_enc a)), .float 0, .ref p, .int (nI o.length), .int (nI a.length), .int (nI o.length), .float 0], [], (h.set p (.inl (.int, 9, .inl f))), 0, 0) Q) :
    ∀ (r k : Nat), k + r = o.length → ∀ f : Nat → Int32, (∀ j, j < k → f j = -1) → xm_X L xs (xm_call L xs (d + 1)) m_U_matchLines (15, [.ref 15, .long (lN (sp_enc o)), .float 0, .long (lN (sp_enc a)), .float 0, .ref p, .int (nI o.length), .int (nI a.length), .int (nI k), .float 0], [], (h.set p (.inl (.int, 9, .inl f))), 0, 0) Q := by
  intro r
  induction r with
  | zero =>
    intro k hk f hf
    have hk : k = o.length := hk
    subst hk
    refine x_iload (pc' := 17) d_U_matchLines_15 rfl rfl ?_
    refine x_iload (pc' := 19) d_U_matchLines_17 rfl rfl ?_
    refine x_icmpge (t := 34) (pc' := 22) d_U_matchLines_19 rfl rfl (fun _ => ?_) (fun q => absurd (nI_le (Nat.le_refl _) (by omega)) q)
    exact K f hf
  | succ r ih =>
    intro k hk f hf
    have hkn : k < o.length := by omega
    refine x_iload (pc' := 17) d_U_matchLines_15 rfl rfl ?_
    refine x_iload (pc' := 19) d_U_matchLines_17 rfl rfl ?_
    refine x_icmpge (t := 34) (pc' := 22) d_U_matchLines_19 rfl rfl (fun q => absurd q (nI_ge hkn (by omega))) (fun _ => ?_)
    refine x_aload (pc' := 24) d_U_matchLines_22 rfl rfl ?_
    refine x_iload (pc' := 26) d_U_matchLines_24 rfl rfl ?_
    refine x_iconst (v := (-1)) (pc' := 27) d_U_matchLines_26 rfl (by decide) ?_
    refine x_iastore (h' := (h.set p (.inl (.int, 9, .inl (upd f (nI k).toNatClampNeg (-1)))))) (pc' := 28) d_U_matchLines_27 rfl (xl_at hp) (vp_in_nI (by omega) (by decide)) (List.set_set ..) ?_
    refine x_iinc (y := nI (k + 1)) (lo' := [.ref 15, .long (lN (sp_enc o)), .float 0, .long (lN (sp_enc a)), .float 0, .ref p, .int (nI o.length), .int (nI a.length), .int (nI (k + 1)), .float 0]) (pc' := 31) d_U_matchLines_28 rfl rfl (sp_nI_inc k) rfl ?_
    refine x_goto (t := 15) d_U_matchLines_31 rfl ?_
    refine ih (k + 1) (by omega) _ (fun j hj => ?_)
    rw [nI_clamp (n := k) (by omega)]
    unfold upd
    by_cases hjk : j = k
    · rw [if_pos hjk]
    · rw [if_neg hjk]
      exact hf j (by omega)
set_option maxHeartbeats 4000000 in
theorem l_U_ml2 {L : Nat} {xs : Nat → Int32} {d : Nat} {Q : xm_Q} {o a : List Nat} (ho : sp_wl o) (ha : sp_wl a) {p : Nat} (hp7 : 17 ≤ p ∧ p ≤ 18) {h : xm_H} {c0 : xm_C} (hp : h[p]? = some c0) {cm : Nat → Nat → Int32} (hU : ch_U0 h) (hC : ch_C h cm) (hT : ∀ x y, x ≤ o.length → y ≤ a.length → cm x y = nI (sp_lcs (o.drop x) (a.drop y)))
    (hQ : ∀ f : Nat → Int32, f o.length = nI a.length → (∀ k, k < o.length → f k = sp_mv1 ((sp_mt o a 0).getD k none)) → Q none (h.set p (.inl (.int, 9, .inl f)))) :
    ∀ (r i j : Nat), (o.length - i) + (a.length - j) = r → i ≤ o.length → j ≤ a.length → ∀ f : Nat → Int32, (sp_mt o a 0).drop i = sp_mt (o.drop i) (a.drop j) j → (∀ k, k < i → f k = sp_mv1 ((sp_mt o a 0).getD k none)) → (∀ k, i ≤ k → k < o.length → f k = -1) → f o.length = nI a.length →
      xm_X L xs (xm_call L xs (d + 1)) m_U_matchLines (47, [.ref 15, .long (lN (sp_enc o)), .float 0, .long (lN (sp_enc a)), .float 0, .ref p, .int (nI o.length), .int (nI a.length), .int (nI i), .int (nI j)], [], (h.set p (.inl (.int, 9, .inl f))), 0, 0) Q := by
  have l8 := ho.1
  have m8 := ha.1
  intro r
  induction r using Nat.strongRecOn with
  | _ r ihr =>
  intro i j hr hi hj f hM hf1 hf0 hf2
  have hU1 : ch_U0 (h.set p (.inl (.int, 9, .inl f))) := ⟨(xl_ne (by omega)).trans hU.1, (xl_ne (by omega)).trans hU.2⟩
  have hC1 : ch_C (h.set p (.inl (.int, 9, .inl f))) cm := ch_C_go hC (fun k h1 h2 => xl_ne (by omega))
  have ih : ∀ i' j', (o.length - i') + (a.length - j') < r → i' ≤ o.length → j' ≤ a.length → ∀ f : Nat → Int32, (sp_mt o a 0).drop i' = sp_mt (o.drop i') (a.drop j') j' → (∀ k, k < i' → f k = sp_mv1 ((sp_mt o a 0).getD k none)) → (∀ k, i' ≤ k → k < o.length → f k = -1) → f o.length = nI a.length → xm_X L xs (xm_call L xs (d + 1)) m_U_matchLines (47, [.ref 15, .long (lN (sp_enc o)), .float 0, .long (lN (sp_enc a)), .float 0, .ref p, .int (nI o.length), .int (nI a.length), .int (nI i'), .int (nI j')], [], (h.set p (.inl (.int, 9, .inl f))), 0, 0) Q := fun i' j' h1 h2 h3 => ihr _ h1 i' j' rfl h2 h3
  by_cases hin : i < o.length
  · by_cases hjm : j < a.length
    · skip
      refine x_iload (pc' := 49) d_U_matchLines_47 rfl rfl ?_
      refine x_iload (pc' := 51) d_U_matchLines_49 rfl rfl ?_
      refine x_icmpge (t := 132) (pc' := 54) d_U_matchLines_51 rfl rfl (fun q => absurd q (nI_ge hin (by omega))) (fun _ => ?_)
      refine x_iload (pc' := 56) d_U_matchLines_54 rfl rfl ?_
      refine x_iload (pc' := 58) d_U_matchLines_56 rfl rfl ?_
      refine x_icmpge (t := 132) (pc' := 61) d_U_matchLines_58 rfl rfl (fun q => absurd q (nI_ge hjm (by omega))) (fun _ => ?_)
      refine x_lload_n (pc' := 62) d_U_matchLines_61 rfl rfl rfl ?_
      refine x_iload (pc' := 64) d_U_matchLines_62 rfl rfl ?_
      refine x_static (as := [.long (lN (sp_enc o)), .int (nI i)]) (r := []) (v := (some (.long (lN (o.getD i 0))))) (h' := (h.set p (.inl (.int, 9, .inl f)))) (st' := [.long (lN (o.getD i 0))]) (c' := 0) (s' := 0) (pc' := 67) d_U_matchLines_64 rfl c_U_66 rfl rfl (Nat.le_of_ble_eq_true rfl) (Nat.le_of_ble_eq_true rfl) (Nat.le_of_ble_eq_true rfl) (fun Q' hq => c_T_lineAt ho hin hq) rfl rfl rfl ?_
      refine x_lload_n (pc' := 68) d_U_matchLines_67 rfl rfl rfl ?_
      refine x_iload (pc' := 70) d_U_matchLines_68 rfl rfl ?_
      refine x_static (as := [.long (lN (sp_enc a)), .int (nI j)]) (r := [.long (lN (o.getD i 0))]) (v := (some (.long (lN (a.getD j 0))))) (h' := (h.set p (.inl (.int, 9, .inl f)))) (st' := [.long (lN (a.getD j 0)), .long (lN (o.getD i 0))]) (c' := 0) (s' := 0) (pc' := 73) d_U_matchLines_70 rfl c_U_66 rfl rfl (Nat.le_of_ble_eq_true rfl) (Nat.le_of_ble_eq_true rfl) (Nat.le_of_ble_eq_true rfl) (fun Q' hq => c_T_lineAt ha hjm hq) rfl rfl rfl ?_
      refine x_lcmp (z := lg_cmp (lN (o.getD i 0)) (lN (a.getD j 0))) (pc' := 74) d_U_matchLines_73 rfl rfl ?_
      refine x_ifne (t := 93) (pc' := 77) d_U_matchLines_74 rfl rfl (fun q3 => ?_) (fun q3 => ?_)
      · refine x_aload_n (pc' := 94) d_U_matchLines_93 rfl rfl ?_
        refine x_getfield (ci := 2) (i := 3) (v := .ref 19) (pc' := 97) d_U_matchLines_94 rfl g_U_24 hU1.1 rfl ?_
        refine x_iload (pc' := 99) d_U_matchLines_97 rfl rfl ?_
        refine x_iconst (v := nI 1) (pc' := 100) d_U_matchLines_99 rfl (by decide) ?_
        refine x_iadd (z := nI (i + 1)) (pc' := 101) d_U_matchLines_100 rfl (nI_add _ _) ?_
        refine x_aaload (q := (20 + (i + 1))) (pc' := 102) d_U_matchLines_101 rfl hU1.2 (Or.inl rfl) (vp_in_nI (by omega) (by decide)) (by rw [nI_clamp (by omega)]) ?_
        refine x_iload (pc' := 104) d_U_matchLines_102 rfl rfl ?_
        refine x_iaload (v := nI (sp_lcs (o.drop (i + 1)) (a.drop j))) (pc' := 105) d_U_matchLines_104 rfl (hC1 (i + 1) (by omega)) (vp_in_nI (by omega) (by decide)) (by rw [nI_clamp (by omega)]; exact hT (i + 1) j (by omega) (by omega)) ?_
        refine x_aload_n (pc' := 106) d_U_matchLines_105 rfl rfl ?_
        refine x_getfield (ci := 2) (i := 3) (v := .ref 19) (pc' := 109) d_U_matchLines_106 rfl g_U_24 hU1.1 rfl ?_
        refine x_iload (pc' := 111) d_U_matchLines_109 rfl rfl ?_
        refine x_aaload (q := (20 + i)) (pc' := 112) d_U_matchLines_111 rfl hU1.2 (Or.inl rfl) (vp_in_nI (by omega) (by decide)) (by rw [nI_clamp (by omega)]) ?_
        refine x_iload (pc' := 114) d_U_matchLines_112 rfl rfl ?_
        refine x_iconst (v := nI 1) (pc' := 115) d_U_matchLines_114 rfl (by decide) ?_
        refine x_iadd (z := nI (j + 1)) (pc' := 116) d_U_matchLines_115 rfl (nI_add _ _) ?_
        refine x_iaload (v := nI (sp_lcs (o.drop i) (a.drop (j + 1)))) (pc' := 117) d_U_matchLines_116 rfl (hC1 i (by omega)) (vp_in_nI (by omega) (by decide)) (by rw [nI_clamp (by omega)]; exact hT i (j + 1) (by omega) (by omega)) ?_
        refine x_icmplt (t := 126) (pc' := 120) d_U_matchLines_117 rfl rfl (fun q4 => ?_) (fun q4 => ?_)
        · refine x_iinc (y := nI (j + 1)) (lo' := [.ref 15, .long (lN (sp_enc o)), .float 0, .long (lN (sp_enc a)), .float 0, .ref p, .int (nI o.length), .int (nI a.length), .int (nI i), .int (nI (j + 1))]) (pc' := 129) d_U_matchLines_126 rfl rfl (sp_nI_inc j) rfl ?_
          refine x_goto (t := 47) d_U_matchLines_129 rfl ?_
          have hne : ¬ o.getD i 0 = a.getD j 0 := fun z => q3 ((sp_line_eq ho ha hin hjm).mpr z)
          have c1 := sp_lcs8 (a := a) ho.1 (i + 1) j
          have c2 := sp_lcs8 (a := a) ho.1 i (j + 1)
          exact ih i (j + 1) (by omega) (by omega) (by omega) f (hM.trans (sp_mt_right hin hjm hne (fun z => absurd q4 (nI_nlt z (by omega))))) hf1 hf0 hf2
        · refine x_iinc (y := nI (i + 1)) (lo' := [.ref 15, .long (lN (sp_enc o)), .float 0, .long (lN (sp_enc a)), .float 0, .ref p, .int (nI o.length), .int (nI a.length), .int (nI (i + 1)), .int (nI j)]) (pc' := 123) d_U_matchLines_120 rfl rfl (sp_nI_inc i) rfl ?_
          refine x_goto (t := 47) d_U_matchLines_123 rfl ?_
          have hne : ¬ o.getD i 0 = a.getD j 0 := fun z => q3 ((sp_line_eq ho ha hin hjm).mpr z)
          have c1 := sp_lcs8 (a := a) ho.1 (i + 1) j
          have c2 := sp_lcs8 (a := a) ho.1 i (j + 1)
          obtain ⟨z1, z2⟩ := sp_drop_cons (y := none) (hM.trans (sp_mt_up hin hjm hne (by rcases Nat.lt_or_ge (sp_lcs (o.drop (i + 1)) (a.drop j)) (sp_lcs (o.drop i) (a.drop (j + 1))) with hh | hh; exact absurd (nI_lt hh (by omega)) q4; exact hh)))
          refine ih (i + 1) j (by omega) (by omega) (by omega) f z2 ?_ (fun k hk hk2 => hf0 k (by omega) hk2) hf2
          intro k hk
          by_cases hki : k = i
          · rw [hki, z1, hf0 i (Nat.le_refl _) hin]
            rfl
          · exact hf1 k (by omega)
      · refine x_aload (pc' := 79) d_U_matchLines_77 rfl rfl ?_
        refine x_iload (pc' := 81) d_U_matchLines_79 rfl rfl ?_
        refine x_iload (pc' := 83) d_U_matchLines_81 rfl rfl ?_
        refine x_iastore (h' := (h.set p (.inl (.int, 9, .inl (upd f (nI i).toNatClampNeg (nI j)))))) (pc' := 84) d_U_matchLines_83 rfl (xl_at hp) (vp_in_nI (by omega) (by decide)) (List.set_set ..) ?_
        refine x_iinc (y := nI (i + 1)) (lo' := [.ref 15, .long (lN (sp_enc o)), .float 0, .long (lN (sp_enc a)), .float 0, .ref p, .int (nI o.length), .int (nI a.length), .int (nI (i + 1)), .int (nI j)]) (pc' := 87) d_U_matchLines_84 rfl rfl (sp_nI_inc i) rfl ?_
        refine x_iinc (y := nI (j + 1)) (lo' := [.ref 15, .long (lN (sp_enc o)), .float 0, .long (lN (sp_enc a)), .float 0, .ref p, .int (nI o.length), .int (nI a.length), .int (nI (i + 1)), .int (nI (j + 1))]) (pc' := 90) d_U_matchLines_87 rfl rfl (sp_nI_inc j) rfl ?_
        refine x_goto (t := 47) d_U_matchLines_90 rfl ?_
        obtain ⟨z1, z2⟩ := sp_drop_cons (y := none) (hM.trans (sp_mt_eq hin hjm ((sp_line_eq ho ha hin hjm).mp q3)))
        refine ih (i + 1) (j + 1) (by omega) (by omega) (by omega) _ z2 ?_ ?_ ?_
        · intro k hk
          rw [nI_clamp (n := i) (by omega)]
          unfold upd
          by_cases hki : k = i
          · rw [if_pos hki, hki, z1]
            rfl
          · rw [if_neg hki]
            exact hf1 k (by omega)
        · intro k hk hk2
          rw [nI_clamp (n := i) (by omega)]
          unfold upd
          rw [if_neg (by omega)]
          exact hf0 k (by omega) hk2
        · rw [nI_clamp (n := i) (by omega)]
          unfold upd
          rw [if_neg (by omega)]
          exact hf2
    · have hfin : ∀ k, k < o.length → f k = sp_mv1 ((sp_mt o a 0).getD k none) := by
        intro k hk
        by_cases hki : k < i
        · exact hf1 k hki
        · obtain ⟨x, rfl⟩ : ∃ x, k = i + x := ⟨k - i, by omega⟩
          rw [hf0 (i + x) (by omega) hk, sp_getD_drop, hM, show a.drop j = [] from List.drop_eq_nil_of_le (by omega), sp_mt_nil]
          rfl
      refine x_iload (pc' := 49) d_U_matchLines_47 rfl rfl ?_
      refine x_iload (pc' := 51) d_U_matchLines_49 rfl rfl ?_
      refine x_icmpge (t := 132) (pc' := 54) d_U_matchLines_51 rfl rfl (fun q => absurd q (nI_ge (by omega) (by omega))) (fun _ => ?_)
      refine x_iload (pc' := 56) d_U_matchLines_54 rfl rfl ?_
      refine x_iload (pc' := 58) d_U_matchLines_56 rfl rfl ?_
      refine x_icmpge (t := 132) (pc' := 61) d_U_matchLines_58 rfl rfl (fun _ => ?_) (fun q => absurd (nI_le (by omega) (by omega)) q)
      exact x_return d_U_matchLines_132 rfl (hQ f hf2 hfin)
  · have hfin : ∀ k, k < o.length → f k = sp_mv1 ((sp_mt o a 0).getD k none) := fun k hk => hf1 k (by omega)
    refine x_iload (pc' := 49) d_U_matchLines_47 rfl rfl ?_
    refine x_iload (pc' := 51) d_U_matchLines_49 rfl rfl ?_
    refine x_icmpge (t := 132) (pc' := 54) d_U_matchLines_51 rfl rfl (fun _ => ?_) (fun q => absurd (nI_le (by omega) (by omega)) q)
    exact x_return d_U_matchLines_132 rfl (hQ f hf2 hfin)
theorem c_U_matchLines {L : Nat} {xs : Nat → Int32} {d : Nat} {Q : xm_Q} {o a : List Nat} (ho : sp_wl o) (ha : sp_wl a) {p : Nat} (hp7 : 17 ≤ p ∧ p ≤ 18) {h : xm_H} {f0 : Nat → Int32} (hp : h[p]? = some (.inl (.int, 9, .inl f0))) {cm : Nat → Nat → Int32} (hU : ch_U0 h) (hC : ch_C h cm) (hT : ∀ x y, x ≤ o.length → y ≤ a.length → cm x y = nI (sp_lcs (o.drop x) (a.drop y)))
    (hQ : ∀ f : Nat → Int32, f o.length = nI a.length → (∀ k, k < o.length → f k = sp_mv1 ((sp_mt o a 0).getD k none)) → Q none (h.set p (.inl (.int, 9, .inl f)))) : xm_call L xs (d + 2) m_U_matchLines [.ref 15, .long (lN (sp_enc o)), .long (lN (sp_enc a)), .ref p] h Q := by
  have l8 := ho.1
  rw [← xl_self hp]
  refine x_call (lo := [.ref 15, .long (lN (sp_enc o)), .float 0, .long (lN (sp_enc a)), .float 0, .ref p, .float 0, .float 0, .float 0, .float 0]) (Nat.le_of_ble_eq_true rfl) rfl ?_
  refine x_lload_n (pc' := 1) d_U_matchLines_0 rfl rfl rfl ?_
  refine x_static (as := [.long (lN (sp_enc o))]) (r := []) (v := (some (.int (nI o.length)))) (h' := (h.set p (.inl (.int, 9, .inl f0)))) (st' := [.int (nI o.length)]) (c' := 0) (s' := 0) (pc' := 4) d_U_matchLines_1 rfl c_U_52 rfl rfl (Nat.le_of_ble_eq_true rfl) (Nat.le_of_ble_eq_true rfl) (Nat.le_of_ble_eq_true rfl) (fun Q' hq => c_T_countOf ho hq) rfl rfl rfl ?_
  refine x_istore (lo' := [.ref 15, .long (lN (sp_enc o)), .float 0, .long (lN (sp_enc a)), .float 0, .ref p, .int (nI o.length), .float 0, .float 0, .float 0]) (pc' := 6) d_U_matchLines_4 rfl (Nat.le_of_ble_eq_true rfl) rfl ?_
  refine x_lload_n (pc' := 7) d_U_matchLines_6 rfl rfl rfl ?_
  refine x_static (as := [.long (lN (sp_enc a))]) (r := []) (v := (some (.int (nI a.length)))) (h' := (h.set p (.inl (.int, 9, .inl f0)))) (st' := [.int (nI a.length)]) (c' := 0) (s' := 0) (pc' := 10) d_U_matchLines_7 rfl c_U_52 rfl rfl (Nat.le_of_ble_eq_true rfl) (Nat.le_of_ble_eq_true rfl) (Nat.le_of_ble_eq_true rfl) (fun Q' hq => c_T_countOf ha hq) rfl rfl rfl ?_
  refine x_istore (lo' := [.ref 15, .long (lN (sp_enc o)), .float 0, .long (lN (sp_enc a)), .float 0, .ref p, .int (nI o.length), .int (nI a.length), .float 0, .float 0]) (pc' := 12) d_U_matchLines_10 rfl (Nat.le_of_ble_eq_true rfl) rfl ?_
  refine x_iconst (v := nI 0) (pc' := 13) d_U_matchLines_12 rfl (by decide) ?_
  refine x_istore (lo' := [.ref 15, .long (lN (sp_enc o)), .float 0, .long (lN (sp_enc a)), .float 0, .ref p, .int (nI o.length), .int (nI a.length), .int (nI 0), .float 0]) (pc' := 15) d_U_matchLines_13 rfl (Nat.le_of_ble_eq_true rfl) rfl ?_
  refine l_U_ml1 l8 hp (fun f hf => ?_) o.length 0 (by omega) f0 (fun j hj => absurd hj (Nat.not_lt_zero _))
  refine x_aload (pc' := 36) d_U_matchLines_34 rfl rfl ?_
  refine x_iload (pc' := 38) d_U_matchLines_36 rfl rfl ?_
  refine x_iload (pc' := 40) d_U_matchLines_38 rfl rfl ?_
  refine x_iastore (h' := (h.set p (.inl (.int, 9, .inl (upd f (nI o.length).toNatClampNeg (nI a.length)))))) (pc' := 41) d_U_matchLines_40 rfl (xl_at hp) (vp_in_nI (by omega) (by decide)) (List.set_set ..) ?_
  refine x_iconst (v := nI 0) (pc' := 42) d_U_matchLines_41 rfl (by decide) ?_
  refine x_istore (lo' := [.ref 15, .long (lN (sp_enc o)), .float 0, .long (lN (sp_enc a)), .float 0, .ref p, .int (nI o.length), .int (nI a.length), .int (nI 0), .float 0]) (pc' := 44) d_U_matchLines_42 rfl (Nat.le_of_ble_eq_true rfl) rfl ?_
  refine x_iconst (v := nI 0) (pc' := 45) d_U_matchLines_44 rfl (by decide) ?_
  refine x_istore (lo' := [.ref 15, .long (lN (sp_enc o)), .float 0, .long (lN (sp_enc a)), .float 0, .ref p, .int (nI o.length), .int (nI a.length), .int (nI 0), .int (nI 0)]) (pc' := 47) d_U_matchLines_45 rfl (Nat.le_of_ble_eq_true rfl) rfl ?_
  refine l_U_ml2 ho ha hp7 hp hU hC hT hQ _ 0 0 rfl (Nat.zero_le _) (Nat.zero_le _) _ (by rw [List.drop_zero, List.drop_zero, List.drop_zero]) (fun k hk => absurd hk (Nat.not_lt_zero _)) (fun k h1 h2 => ?_) ?_
  · rw [nI_clamp (n := o.length) (by omega)]
    unfold upd
    rw [if_neg (by omega)]
    exact hf k h2
  · rw [nI_clamp (n := o.length) (by omega)]
    unfold upd
    rw [if_pos rfl]
end
section
/-! Texts united piece by piece; contracts of uniteTexts and uniteSnapshots. (Printed by c_unite.py.) -/
def sp_mtB (M : List (Option Nat)) (j n : Nat) : Prop := ∀ k x, M.getD k none = some x → j ≤ x ∧ x < j + n ∧ ∀ k' x', k < k' → M.getD k' none = some x' → x < x'
theorem sp_mtB_cons {M : List (Option Nat)} {j n : Nat} (h : sp_mtB M (j + 1) n) : sp_mtB (some j :: M) j (n + 1) := by
  intro k x hk
  cases k with
  | zero =>
    rw [List.getD_cons_zero] at hk
    cases hk
    refine ⟨Nat.le_refl _, by omega, fun k' x' h1 h2 => ?_⟩
    cases k' with
    | zero => omega
    | succ k' =>
      rw [List.getD_cons_succ] at h2
      exact (h k' x' h2).1
  | succ k =>
    rw [List.getD_cons_succ] at hk
    obtain ⟨h1, h2, h3⟩ := h k x hk
    refine ⟨by omega, by omega, fun k' x' h4 h5 => ?_⟩
    cases k' with
    | zero => omega
    | succ k' =>
      rw [List.getD_cons_succ] at h5
      exact h3 k' x' (by omega) h5
theorem sp_mtB_none {M : List (Option Nat)} {j n : Nat} (h : sp_mtB M j n) : sp_mtB (none :: M) j n := by
  intro k x hk
  cases k with
  | zero => cases hk
  | succ k =>
    rw [List.getD_cons_succ] at hk
    obtain ⟨h1, h2, h3⟩ := h k x hk
    refine ⟨h1, h2, fun k' x' h4 h5 => ?_⟩
    cases k' with
    | zero => omega
    | succ k' =>
      rw [List.getD_cons_succ] at h5
      exact h3 k' x' (by omega) h5
theorem sp_mtB_r {M : List (Option Nat)} {j n : Nat} (h : sp_mtB M (j + 1) n) : sp_mtB M j (n + 1) := fun k x hk => ⟨by have := (h k x hk).1; omega, by have := (h k x hk).2.1; omega, (h k x hk).2.2⟩
theorem sp_mt_B : ∀ (xs ys : List Nat) (j : Nat), sp_mtB (sp_mt xs ys j) j ys.length
  | [], _, _ => fun k x hk => by simp [sp_mt] at hk
  | x :: xs, [], j => sp_mtB_none (sp_mt_B xs [] j)
  | x :: xs, y :: ys, j => by
    show sp_mtB (if x = y then some j :: sp_mt xs ys (j + 1) else if sp_lcs xs (y :: ys) ≥ sp_lcs (x :: xs) ys then none :: sp_mt xs (y :: ys) j else sp_mt (x :: xs) ys (j + 1)) j (ys.length + 1)
    split
    · exact sp_mtB_cons (sp_mt_B xs ys (j + 1))
    · split
      · exact sp_mtB_none (sp_mt_B xs (y :: ys) j)
      · exact sp_mtB_r (sp_mt_B (x :: xs) ys (j + 1))
termination_by xs ys => xs.length + ys.length
def sp_cgo (o a b : List Nat) (ma mb : List (Option Nat)) : Nat → Nat → Nat → Nat → Nat → Option (List Nat) → Option (List Nat)
  | 0, k, i, p, q, R => sp_join R (sp_take (sp_sl o i k) (sp_sl a p a.length) (sp_sl b q b.length))
  | r + 1, k, i, p, q, R => match ma.getD k none, mb.getD k none with
    | some x, some y => sp_cgo o a b ma mb r (k + 1) (k + 1) (x + 1) (y + 1) (sp_join (sp_join R (sp_take (sp_sl o i k) (sp_sl a p x) (sp_sl b q y))) (some [o.getD k 0]))
    | _, _ => sp_cgo o a b ma mb r (k + 1) i p q R
theorem sp_cgo_1 {o a b : List Nat} {ma mb : List (Option Nat)} {r k i p q : Nat} {R : Option (List Nat)} (h1 : ma.getD k none = none) : sp_cgo o a b ma mb (r + 1) k i p q R = sp_cgo o a b ma mb r (k + 1) i p q R := by
  conv => lhs; unfold sp_cgo
  rw [h1]
theorem sp_cgo_2 {o a b : List Nat} {ma mb : List (Option Nat)} {r k i p q : Nat} {R : Option (List Nat)} {x : Nat} (h1 : ma.getD k none = some x) (h2 : mb.getD k none = none) : sp_cgo o a b ma mb (r + 1) k i p q R = sp_cgo o a b ma mb r (k + 1) i p q R := by
  conv => lhs; unfold sp_cgo
  rw [h1, h2]
theorem sp_cgo_3 {o a b : List Nat} {ma mb : List (Option Nat)} {r k i p q : Nat} {R : Option (List Nat)} {x y : Nat} (h1 : ma.getD k none = some x) (h2 : mb.getD k none = some y) : sp_cgo o a b ma mb (r + 1) k i p q R = sp_cgo o a b ma mb r (k + 1) (k + 1) (x + 1) (y + 1) (sp_join (sp_join R (sp_take (sp_sl o i k) (sp_sl a p x) (sp_sl b q y))) (some [o.getD k 0])) := by
  conv => lhs; unfold sp_cgo
  rw [h1, h2]
theorem sp_go_1 {o a b : List Nat} {ma mb : List (Option Nat)} {r k i p q : Nat} {R : List Nat} (h1 : ma.getD k none = none) : sp_go o a b ma mb (r + 1) k i p q R = sp_go o a b ma mb r (k + 1) i p q R := by
  conv => lhs; unfold sp_go
  rw [h1]
theorem sp_go_2 {o a b : List Nat} {ma mb : List (Option Nat)} {r k i p q : Nat} {R : List Nat} {x : Nat} (h1 : ma.getD k none = some x) (h2 : mb.getD k none = none) : sp_go o a b ma mb (r + 1) k i p q R = sp_go o a b ma mb r (k + 1) i p q R := by
  conv => lhs; unfold sp_go
  rw [h1, h2]
theorem sp_go_3 {o a b : List Nat} {ma mb : List (Option Nat)} {r k i p q : Nat} {R : List Nat} {x y : Nat} (h1 : ma.getD k none = some x) (h2 : mb.getD k none = some y) : sp_go o a b ma mb (r + 1) k i p q R = (sp_take (sp_sl o i k) (sp_sl a p x) (sp_sl b q y)).bind fun t => sp_go o a b ma mb r (k + 1) (k + 1) (x + 1) (y + 1) (R ++ t ++ [o.getD k 0]) := by
  conv => lhs; unfold sp_go
  rw [h1, h2]
def sp_lim (t : List Nat) : Option (List Nat) := if t.length ≤ 8 then some t else none
theorem sp_join_none (R : Option (List Nat)) : sp_join R none = none := by cases R <;> rfl
theorem sp_join_lim (acc t : List Nat) : sp_join (sp_lim acc) (some t) = sp_lim (acc ++ t) := by
  unfold sp_lim
  rw [List.length_append]
  by_cases h : acc.length ≤ 8
  · rw [if_pos h]
    rfl
  · rw [if_neg h, if_neg (by omega)]
    rfl
theorem sp_cgo_none (o a b : List Nat) (ma mb : List (Option Nat)) : ∀ r k i p q, sp_cgo o a b ma mb r k i p q none = none
  | 0, _, _, _, _ => rfl
  | r + 1, k, i, p, q => by
    unfold sp_cgo
    split
    · exact sp_cgo_none o a b ma mb r _ _ _ _
    · exact sp_cgo_none o a b ma mb r _ _ _ _
theorem sp_cgo_go (o a b : List Nat) (ma mb : List (Option Nat)) : ∀ r k i p q acc, sp_cgo o a b ma mb r k i p q (sp_lim acc) = (sp_go o a b ma mb r k i p q acc).bind sp_lim
  | 0, k, i, p, q, acc => by
    unfold sp_cgo sp_go
    cases sp_take (sp_sl o i k) (sp_sl a p a.length) (sp_sl b q b.length) with
    | none => exact sp_join_none _
    | some t => exact sp_join_lim acc t
  | r + 1, k, i, p, q, acc => by
    cases h1 : ma.getD k none with
    | none =>
      rw [sp_cgo_1 h1, sp_go_1 h1]
      exact sp_cgo_go o a b ma mb r _ _ _ _ _
    | some x =>
      cases h2 : mb.getD k none with
      | none =>
        rw [sp_cgo_2 h1 h2, sp_go_2 h1 h2]
        exact sp_cgo_go o a b ma mb r _ _ _ _ _
      | some y =>
        rw [sp_cgo_3 h1 h2, sp_go_3 h1 h2]
        cases sp_take (sp_sl o i k) (sp_sl a p x) (sp_sl b q y) with
        | none =>
          rw [sp_join_none]
          exact sp_cgo_none o a b ma mb r _ _ _ _
        | some t =>
          rw [sp_join_lim, sp_join_lim]
          exact sp_cgo_go o a b ma mb r _ _ _ _ _
theorem sp_unite_cgo (o a b : List Nat) : sp_unite o a b = sp_cgo o a b (sp_mt o a 0) (sp_mt o b 0) o.length 0 0 0 0 (some []) := (sp_cgo_go o a b (sp_mt o a 0) (sp_mt o b 0) o.length 0 0 0 0 []).symm
theorem sp_take_wt {x y z : List Nat} (hy : sp_wl y) (hz : sp_wl z) : sp_wt (sp_take x y z) := by
  intro l e
  unfold sp_take at e
  split at e
  · cases e
    exact hz
  · split at e
    · cases e
      exact hy
    · cases e
theorem sp_join_wt {a b : Option (List Nat)} (ha : sp_wt a) (hb : sp_wt b) : sp_wt (sp_join a b) := by
  intro l e
  cases a with
  | none => cases e
  | some a =>
    cases b with
    | none => cases e
    | some b =>
      unfold sp_join at e
      dsimp only at e
      split at e
      · rename_i h
        cases e
        exact sp_wl_app (ha a rfl) (hb b rfl) h
      · cases e
theorem sp_encN {x y : List Nat} (hx : sp_wl x) (hy : sp_wl y) : lN (sp_enc x) = lN (sp_enc y) ↔ x = y := by
  have h := sp_tv_inj (x := some x) (y := some y) (fun l e => by cases e; exact hx) (fun l e => by cases e; exact hy)
  exact h.trans (by simp)
theorem sp_tk_jv {x y z : List Nat} (hx : sp_wl x) (hy : sp_wl y) (hz : sp_wl z) : sp_tk (lN (sp_enc x)) (lN (sp_enc y)) (lN (sp_enc z)) = sp_jv (sp_take x y z) := by
  unfold sp_tk sp_take
  by_cases h1 : y = x
  · rw [if_pos ((sp_encN hy hx).mpr h1), if_pos h1]
    rfl
  · rw [if_neg (fun e => h1 ((sp_encN hy hx).mp e)), if_neg h1]
    by_cases h2 : z = x ∨ z = y
    · rw [if_pos (h2.elim (fun e => Or.inl ((sp_encN hz hx).mpr e)) (fun e => Or.inr ((sp_encN hz hy).mpr e))), if_pos h2]
      rfl
    · rw [if_neg (fun e => h2 (e.elim (fun e => Or.inl ((sp_encN hz hx).mp e)) (fun e => Or.inr ((sp_encN hz hy).mp e)))), if_neg h2]
      rfl
theorem sp_sl1 {t : List Nat} {k : Nat} (hk : k < t.length) : sp_sl t k (k + 1) = [t.getD k 0] := by
  unfold sp_sl
  rw [sp_getD hk, show k + 1 - k = 1 by omega]
  rfl
theorem sp_nI_m1 {x : Nat} (h : x < 2 ^ 31) : nI x ≠ -1 := by
  intro e
  have := nI_toInt h
  rw [e] at this
  have h2 : (-1 : Int32).toInt = -1 := by decide
  omega
set_option maxHeartbeats 4000000 in
theorem l_U_ut {L : Nat} {xs : Nat → Int32} {d : Nat} {Q : xm_Q} {o a b : List Nat} (ho : sp_wl o) (ha : sp_wl a) (hb : sp_wl b) {h : xm_H} (hU : ch_U0 h) {f1 f2 : Nat → Int32} (g17 : h[17]? = some (.inl (.int, 9, .inl f1))) (g18 : h[18]? = some (.inl (.int, 9, .inl f2))) (hl1 : f1 o.length = nI a.length) (hl2 : f2 o.length = nI b.length)
    (hf1 : ∀ k, k < o.length → f1 k = sp_mv1 ((sp_mt o a 0).getD k none)) (hf2 : ∀ k, k < o.length → f2 k = sp_mv1 ((sp_mt o b 0).getD k none)) :
    ∀ (r k i p q : Nat) (R : Option (List Nat)) (t1 t2 : Value), k + r = o.length → i ≤ k → p ≤ a.length → q ≤ b.length → (∀ k' x, k ≤ k' → (sp_mt o a 0).getD k' none = some x → p ≤ x) → (∀ k' x, k ≤ k' → (sp_mt o b 0).getD k' none = some x → q ≤ x) → sp_wt R → Q (some (.long (sp_jv (sp_cgo o a b (sp_mt o a 0) (sp_mt o b 0) r k i p q R)))) h →
      xm_X L xs (xm_call L xs (d + 2)) m_U_uniteTexts (55, [.ref 15, .long (lN (sp_enc o)), .float 0, .long (lN (sp_enc a)), .float 0, .long (lN (sp_enc b)), .float 0, .int (nI o.length), .int (nI i), .int (nI p), .int (nI q), .long (sp_jv R), .float 0, .int (nI k), t1, t2], [], h, 0, 0) Q := by
  have l8 := ho.1
  have a8 := ha.1
  have b8 := hb.1
  intro r
  induction r with
  | zero =>
    intro k i p q R t1 t2 hk hik hp hq hpa hqb hR hQ
    have hk : k = o.length := hk
    have e1 : f1 k = nI a.length := by rw [hk]; exact hl1
    have e2 : f2 k = nI b.length := by rw [hk]; exact hl2
    refine x_iload (pc' := 57) d_U_uniteTexts_55 rfl rfl ?_
    refine x_iload (pc' := 59) d_U_uniteTexts_57 rfl rfl ?_
    refine x_icmpgt (t := 191) (pc' := 62) d_U_uniteTexts_59 rfl rfl (fun q => absurd q (nI_nlt (by omega) (by omega))) (fun _ => ?_)
    refine x_aload_n (pc' := 63) d_U_uniteTexts_62 rfl rfl ?_
    refine x_getfield (ci := 2) (i := 1) (v := .ref 17) (pc' := 66) d_U_uniteTexts_63 rfl g_U_15 hU.1 rfl ?_
    refine x_iload (pc' := 68) d_U_uniteTexts_66 rfl rfl ?_
    refine x_iaload (v := nI a.length) (pc' := 69) d_U_uniteTexts_68 rfl g17 (vp_in_nI (by omega) (by decide)) (by rw [nI_clamp (by omega)]; exact e1) ?_
    refine x_iconst (v := (-1)) (pc' := 70) d_U_uniteTexts_69 rfl (by decide) ?_
    refine x_icmpeq (t := 185) (pc' := 73) d_U_uniteTexts_70 rfl rfl (fun q => absurd q (sp_nI_m1 (by omega))) (fun _ => ?_)
    refine x_aload_n (pc' := 74) d_U_uniteTexts_73 rfl rfl ?_
    refine x_getfield (ci := 2) (i := 2) (v := .ref 18) (pc' := 77) d_U_uniteTexts_74 rfl g_U_19 hU.1 rfl ?_
    refine x_iload (pc' := 79) d_U_uniteTexts_77 rfl rfl ?_
    refine x_iaload (v := nI b.length) (pc' := 80) d_U_uniteTexts_79 rfl g18 (vp_in_nI (by omega) (by decide)) (by rw [nI_clamp (by omega)]; exact e2) ?_
    refine x_iconst (v := (-1)) (pc' := 81) d_U_uniteTexts_80 rfl (by decide) ?_
    refine x_icmpeq (t := 185) (pc' := 84) d_U_uniteTexts_81 rfl rfl (fun q => absurd q (sp_nI_m1 (by omega))) (fun _ => ?_)
    refine x_lload_n (pc' := 85) d_U_uniteTexts_84 rfl rfl rfl ?_
    refine x_iload (pc' := 87) d_U_uniteTexts_85 rfl rfl ?_
    refine x_iload (pc' := 89) d_U_uniteTexts_87 rfl rfl ?_
    refine x_static (as := [.long (lN (sp_enc o)), .int (nI i), .int (nI k)]) (r := []) (v := (some (.long (lN (sp_enc (sp_sl o i k)))))) (h' := h) (st' := [.long (lN (sp_enc (sp_sl o i k)))]) (c' := 0) (s' := 0) (pc' := 92) d_U_uniteTexts_89 rfl c_U_58 rfl rfl (Nat.le_of_ble_eq_true rfl) (Nat.le_of_ble_eq_true rfl) (Nat.le_of_ble_eq_true rfl) (fun Q' hq => c_T_piece ho hik (by omega) hq) rfl rfl rfl ?_
    refine x_lload_n (pc' := 93) d_U_uniteTexts_92 rfl rfl rfl ?_
    refine x_iload (pc' := 95) d_U_uniteTexts_93 rfl rfl ?_
    refine x_aload_n (pc' := 96) d_U_uniteTexts_95 rfl rfl ?_
    refine x_getfield (ci := 2) (i := 1) (v := .ref 17) (pc' := 99) d_U_uniteTexts_96 rfl g_U_15 hU.1 rfl ?_
    refine x_iload (pc' := 101) d_U_uniteTexts_99 rfl rfl ?_
    refine x_iaload (v := nI a.length) (pc' := 102) d_U_uniteTexts_101 rfl g17 (vp_in_nI (by omega) (by decide)) (by rw [nI_clamp (by omega)]; exact e1) ?_
    refine x_static (as := [.long (lN (sp_enc a)), .int (nI p), .int (nI a.length)]) (r := [.long (lN (sp_enc (sp_sl o i k)))]) (v := (some (.long (lN (sp_enc (sp_sl a p a.length)))))) (h' := h) (st' := [.long (lN (sp_enc (sp_sl a p a.length))), .long (lN (sp_enc (sp_sl o i k)))]) (c' := 0) (s' := 0) (pc' := 105) d_U_uniteTexts_102 rfl c_U_58 rfl rfl (Nat.le_of_ble_eq_true rfl) (Nat.le_of_ble_eq_true rfl) (Nat.le_of_ble_eq_true rfl) (fun Q' hq => c_T_piece ha (by omega) (by omega) hq) rfl rfl rfl ?_
    refine x_lload (pc' := 107) d_U_uniteTexts_105 rfl rfl rfl ?_
    refine x_iload (pc' := 109) d_U_uniteTexts_107 rfl rfl ?_
    refine x_aload_n (pc' := 110) d_U_uniteTexts_109 rfl rfl ?_
    refine x_getfield (ci := 2) (i := 2) (v := .ref 18) (pc' := 113) d_U_uniteTexts_110 rfl g_U_19 hU.1 rfl ?_
    refine x_iload (pc' := 115) d_U_uniteTexts_113 rfl rfl ?_
    refine x_iaload (v := nI b.length) (pc' := 116) d_U_uniteTexts_115 rfl g18 (vp_in_nI (by omega) (by decide)) (by rw [nI_clamp (by omega)]; exact e2) ?_
    refine x_static (as := [.long (lN (sp_enc b)), .int (nI q), .int (nI b.length)]) (r := [.long (lN (sp_enc (sp_sl a p a.length))), .long (lN (sp_enc (sp_sl o i k)))]) (v := (some (.long (lN (sp_enc (sp_sl b q b.length)))))) (h' := h) (st' := [.long (lN (sp_enc (sp_sl b q b.length))), .long (lN (sp_enc (sp_sl a p a.length))), .long (lN (sp_enc (sp_sl o i k)))]) (c' := 0) (s' := 0) (pc' := 119) d_U_uniteTexts_116 rfl c_U_58 rfl rfl (Nat.le_of_ble_eq_true rfl) (Nat.le_of_ble_eq_true rfl) (Nat.le_of_ble_eq_true rfl) (fun Q' hq => c_T_piece hb (by omega) (by omega) hq) rfl rfl rfl ?_
    refine x_static (as := [.long (lN (sp_enc (sp_sl o i k))), .long (lN (sp_enc (sp_sl a p a.length))), .long (lN (sp_enc (sp_sl b q b.length)))]) (r := []) (v := (some (.long (sp_jv (sp_take (sp_sl o i k) (sp_sl a p a.length) (sp_sl b q b.length)))))) (h' := h) (st' := [.long (sp_jv (sp_take (sp_sl o i k) (sp_sl a p a.length) (sp_sl b q b.length)))]) (c' := 0) (s' := 0) (pc' := 122) d_U_uniteTexts_119 rfl c_U_33 rfl rfl (Nat.le_of_ble_eq_true rfl) (Nat.le_of_ble_eq_true rfl) (Nat.le_of_ble_eq_true rfl) (fun Q' hq => c_U_take (x_ql (sp_tk_jv (sp_wl_sl ho _ _) (sp_wl_sl ha _ _) (sp_wl_sl hb _ _)).symm hq)) rfl rfl rfl ?_
    refine x_lstore (lo' := [.ref 15, .long (lN (sp_enc o)), .float 0, .long (lN (sp_enc a)), .float 0, .long (lN (sp_enc b)), .float 0, .int (nI o.length), .int (nI i), .int (nI p), .int (nI q), .long (sp_jv R), .float 0, .int (nI k), .long (sp_jv (sp_take (sp_sl o i k) (sp_sl a p a.length) (sp_sl b q b.length))), .float 0]) (pc' := 124) d_U_uniteTexts_122 rfl (Nat.le_of_ble_eq_true rfl) rfl ?_
    refine x_lload (pc' := 126) d_U_uniteTexts_124 rfl rfl rfl ?_
    refine x_lload (pc' := 128) d_U_uniteTexts_126 rfl rfl rfl ?_
    refine x_static (as := [.long (sp_jv R), .long (sp_jv (sp_take (sp_sl o i k) (sp_sl a p a.length) (sp_sl b q b.length)))]) (r := []) (v := (some (.long (sp_jv (sp_join R (sp_take (sp_sl o i k) (sp_sl a p a.length) (sp_sl b q b.length))))))) (h' := h) (st' := [.long (sp_jv (sp_join R (sp_take (sp_sl o i k) (sp_sl a p a.length) (sp_sl b q b.length))))]) (c' := 0) (s' := 0) (pc' := 131) d_U_uniteTexts_128 rfl c_U_62 rfl rfl (Nat.le_of_ble_eq_true rfl) (Nat.le_of_ble_eq_true rfl) (Nat.le_of_ble_eq_true rfl) (fun Q' hq => c_T_join hR (sp_take_wt (sp_wl_sl ha _ _) (sp_wl_sl hb _ _)) hq) rfl rfl rfl ?_
    refine x_lstore (lo' := [.ref 15, .long (lN (sp_enc o)), .float 0, .long (lN (sp_enc a)), .float 0, .long (lN (sp_enc b)), .float 0, .int (nI o.length), .int (nI i), .int (nI p), .int (nI q), .long (sp_jv (sp_join R (sp_take (sp_sl o i k) (sp_sl a p a.length) (sp_sl b q b.length)))), .float 0, .int (nI k), .long (sp_jv (sp_take (sp_sl o i k) (sp_sl a p a.length) (sp_sl b q b.length))), .float 0]) (pc' := 133) d_U_uniteTexts_131 rfl (Nat.le_of_ble_eq_true rfl) rfl ?_
    refine x_iload (pc' := 135) d_U_uniteTexts_133 rfl rfl ?_
    refine x_iconst (v := nI 1) (pc' := 136) d_U_uniteTexts_135 rfl (by decide) ?_
    refine x_iadd (z := nI (k + 1)) (pc' := 137) d_U_uniteTexts_136 rfl (nI_add _ _) ?_
    refine x_istore (lo' := [.ref 15, .long (lN (sp_enc o)), .float 0, .long (lN (sp_enc a)), .float 0, .long (lN (sp_enc b)), .float 0, .int (nI o.length), .int (nI (k + 1)), .int (nI p), .int (nI q), .long (sp_jv (sp_join R (sp_take (sp_sl o i k) (sp_sl a p a.length) (sp_sl b q b.length)))), .float 0, .int (nI k), .long (sp_jv (sp_take (sp_sl o i k) (sp_sl a p a.length) (sp_sl b q b.length))), .float 0]) (pc' := 139) d_U_uniteTexts_137 rfl (Nat.le_of_ble_eq_true rfl) rfl ?_
    refine x_aload_n (pc' := 140) d_U_uniteTexts_139 rfl rfl ?_
    refine x_getfield (ci := 2) (i := 1) (v := .ref 17) (pc' := 143) d_U_uniteTexts_140 rfl g_U_15 hU.1 rfl ?_
    refine x_iload (pc' := 145) d_U_uniteTexts_143 rfl rfl ?_
    refine x_iaload (v := nI a.length) (pc' := 146) d_U_uniteTexts_145 rfl g17 (vp_in_nI (by omega) (by decide)) (by rw [nI_clamp (by omega)]; exact e1) ?_
    refine x_iconst (v := nI 1) (pc' := 147) d_U_uniteTexts_146 rfl (by decide) ?_
    refine x_iadd (z := nI (a.length + 1)) (pc' := 148) d_U_uniteTexts_147 rfl (nI_add _ _) ?_
    refine x_istore (lo' := [.ref 15, .long (lN (sp_enc o)), .float 0, .long (lN (sp_enc a)), .float 0, .long (lN (sp_enc b)), .float 0, .int (nI o.length), .int (nI (k + 1)), .int (nI (a.length + 1)), .int (nI q), .long (sp_jv (sp_join R (sp_take (sp_sl o i k) (sp_sl a p a.length) (sp_sl b q b.length)))), .float 0, .int (nI k), .long (sp_jv (sp_take (sp_sl o i k) (sp_sl a p a.length) (sp_sl b q b.length))), .float 0]) (pc' := 150) d_U_uniteTexts_148 rfl (Nat.le_of_ble_eq_true rfl) rfl ?_
    refine x_aload_n (pc' := 151) d_U_uniteTexts_150 rfl rfl ?_
    refine x_getfield (ci := 2) (i := 2) (v := .ref 18) (pc' := 154) d_U_uniteTexts_151 rfl g_U_19 hU.1 rfl ?_
    refine x_iload (pc' := 156) d_U_uniteTexts_154 rfl rfl ?_
    refine x_iaload (v := nI b.length) (pc' := 157) d_U_uniteTexts_156 rfl g18 (vp_in_nI (by omega) (by decide)) (by rw [nI_clamp (by omega)]; exact e2) ?_
    refine x_iconst (v := nI 1) (pc' := 158) d_U_uniteTexts_157 rfl (by decide) ?_
    refine x_iadd (z := nI (b.length + 1)) (pc' := 159) d_U_uniteTexts_158 rfl (nI_add _ _) ?_
    refine x_istore (lo' := [.ref 15, .long (lN (sp_enc o)), .float 0, .long (lN (sp_enc a)), .float 0, .long (lN (sp_enc b)), .float 0, .int (nI o.length), .int (nI (k + 1)), .int (nI (a.length + 1)), .int (nI (b.length + 1)), .long (sp_jv (sp_join R (sp_take (sp_sl o i k) (sp_sl a p a.length) (sp_sl b q b.length)))), .float 0, .int (nI k), .long (sp_jv (sp_take (sp_sl o i k) (sp_sl a p a.length) (sp_sl b q b.length))), .float 0]) (pc' := 161) d_U_uniteTexts_159 rfl (Nat.le_of_ble_eq_true rfl) rfl ?_
    refine x_iload (pc' := 163) d_U_uniteTexts_161 rfl rfl ?_
    refine x_iload (pc' := 165) d_U_uniteTexts_163 rfl rfl ?_
    refine x_icmpge (t := 185) (pc' := 168) d_U_uniteTexts_165 rfl rfl (fun _ => ?_) (fun q => absurd (nI_le (by omega) (by omega)) q)
    refine x_iinc (y := nI (k + 1)) (lo' := [.ref 15, .long (lN (sp_enc o)), .float 0, .long (lN (sp_enc a)), .float 0, .long (lN (sp_enc b)), .float 0, .int (nI o.length), .int (nI (k + 1)), .int (nI (a.length + 1)), .int (nI (b.length + 1)), .long (sp_jv (sp_join R (sp_take (sp_sl o i k) (sp_sl a p a.length) (sp_sl b q b.length)))), .float 0, .int (nI (k + 1)), .long (sp_jv (sp_take (sp_sl o i k) (sp_sl a p a.length) (sp_sl b q b.length))), .float 0]) (pc' := 188) d_U_uniteTexts_185 rfl rfl (sp_nI_inc k) rfl ?_
    refine x_goto (t := 55) d_U_uniteTexts_188 rfl ?_
    refine x_iload (pc' := 57) d_U_uniteTexts_55 rfl rfl ?_
    refine x_iload (pc' := 59) d_U_uniteTexts_57 rfl rfl ?_
    refine x_icmpgt (t := 191) (pc' := 62) d_U_uniteTexts_59 rfl rfl (fun _ => ?_) (fun q => absurd (nI_lt (by omega) (by omega)) q)
    refine x_lload (pc' := 193) d_U_uniteTexts_191 rfl rfl rfl ?_
    exact x_lreturn d_U_uniteTexts_193 rfl hQ
  | succ r ih =>
    intro k i p q R t1 t2 hk hik hp hq hpa hqb hR hQ
    have hkn : k < o.length := by omega
    cases h1 : (sp_mt o a 0).getD k none with
    | none =>
      refine x_iload (pc' := 57) d_U_uniteTexts_55 rfl rfl ?_
      refine x_iload (pc' := 59) d_U_uniteTexts_57 rfl rfl ?_
      refine x_icmpgt (t := 191) (pc' := 62) d_U_uniteTexts_59 rfl rfl (fun q => absurd q (nI_nlt (by omega) (by omega))) (fun _ => ?_)
      refine x_aload_n (pc' := 63) d_U_uniteTexts_62 rfl rfl ?_
      refine x_getfield (ci := 2) (i := 1) (v := .ref 17) (pc' := 66) d_U_uniteTexts_63 rfl g_U_15 hU.1 rfl ?_
      refine x_iload (pc' := 68) d_U_uniteTexts_66 rfl rfl ?_
      refine x_iaload (v := (-1)) (pc' := 69) d_U_uniteTexts_68 rfl g17 (vp_in_nI (by omega) (by decide)) (by rw [nI_clamp (by omega), hf1 k (by omega), h1]; rfl) ?_
      refine x_iconst (v := (-1)) (pc' := 70) d_U_uniteTexts_69 rfl (by decide) ?_
      refine x_icmpeq (t := 185) (pc' := 73) d_U_uniteTexts_70 rfl rfl (fun _ => ?_) (fun q => absurd rfl q)
      refine x_iinc (y := nI (k + 1)) (lo' := [.ref 15, .long (lN (sp_enc o)), .float 0, .long (lN (sp_enc a)), .float 0, .long (lN (sp_enc b)), .float 0, .int (nI o.length), .int (nI i), .int (nI p), .int (nI q), .long (sp_jv R), .float 0, .int (nI (k + 1)), t1, t2]) (pc' := 188) d_U_uniteTexts_185 rfl rfl (sp_nI_inc k) rfl ?_
      refine x_goto (t := 55) d_U_uniteTexts_188 rfl ?_
      exact ih (k + 1) i p q R _ _ (by omega) (by omega) hp hq (fun k' x h5 => hpa k' x (by omega)) (fun k' x h5 => hqb k' x (by omega)) hR (x_ql (by rw [sp_cgo_1 h1]) hQ)
    | some x =>
      obtain ⟨-, hx, hxi⟩ := sp_mt_B o a 0 k x h1
      cases h2 : (sp_mt o b 0).getD k none with
      | none =>
        refine x_iload (pc' := 57) d_U_uniteTexts_55 rfl rfl ?_
        refine x_iload (pc' := 59) d_U_uniteTexts_57 rfl rfl ?_
        refine x_icmpgt (t := 191) (pc' := 62) d_U_uniteTexts_59 rfl rfl (fun q => absurd q (nI_nlt (by omega) (by omega))) (fun _ => ?_)
        refine x_aload_n (pc' := 63) d_U_uniteTexts_62 rfl rfl ?_
        refine x_getfield (ci := 2) (i := 1) (v := .ref 17) (pc' := 66) d_U_uniteTexts_63 rfl g_U_15 hU.1 rfl ?_
        refine x_iload (pc' := 68) d_U_uniteTexts_66 rfl rfl ?_
        refine x_iaload (v := nI x) (pc' := 69) d_U_uniteTexts_68 rfl g17 (vp_in_nI (by omega) (by decide)) (by rw [nI_clamp (by omega), hf1 k (by omega), h1]; rfl) ?_
        refine x_iconst (v := (-1)) (pc' := 70) d_U_uniteTexts_69 rfl (by decide) ?_
        refine x_icmpeq (t := 185) (pc' := 73) d_U_uniteTexts_70 rfl rfl (fun q => absurd q (sp_nI_m1 (by omega))) (fun _ => ?_)
        refine x_aload_n (pc' := 74) d_U_uniteTexts_73 rfl rfl ?_
        refine x_getfield (ci := 2) (i := 2) (v := .ref 18) (pc' := 77) d_U_uniteTexts_74 rfl g_U_19 hU.1 rfl ?_
        refine x_iload (pc' := 79) d_U_uniteTexts_77 rfl rfl ?_
        refine x_iaload (v := (-1)) (pc' := 80) d_U_uniteTexts_79 rfl g18 (vp_in_nI (by omega) (by decide)) (by rw [nI_clamp (by omega), hf2 k (by omega), h2]; rfl) ?_
        refine x_iconst (v := (-1)) (pc' := 81) d_U_uniteTexts_80 rfl (by decide) ?_
        refine x_icmpeq (t := 185) (pc' := 84) d_U_uniteTexts_81 rfl rfl (fun _ => ?_) (fun q => absurd rfl q)
        refine x_iinc (y := nI (k + 1)) (lo' := [.ref 15, .long (lN (sp_enc o)), .float 0, .long (lN (sp_enc a)), .float 0, .long (lN (sp_enc b)), .float 0, .int (nI o.length), .int (nI i), .int (nI p), .int (nI q), .long (sp_jv R), .float 0, .int (nI (k + 1)), t1, t2]) (pc' := 188) d_U_uniteTexts_185 rfl rfl (sp_nI_inc k) rfl ?_
        refine x_goto (t := 55) d_U_uniteTexts_188 rfl ?_
        exact ih (k + 1) i p q R _ _ (by omega) (by omega) hp hq (fun k' x h5 => hpa k' x (by omega)) (fun k' x h5 => hqb k' x (by omega)) hR (x_ql (by rw [sp_cgo_2 h1 h2]) hQ)
      | some y =>
        obtain ⟨-, hy, hyi⟩ := sp_mt_B o b 0 k y h2
        have px := hpa k x (Nat.le_refl _) h1
        have qy := hqb k y (Nat.le_refl _) h2
        have e1 : f1 k = nI x := by rw [hf1 k hkn, h1]; rfl
        have e2 : f2 k = nI y := by rw [hf2 k hkn, h2]; rfl
        refine x_iload (pc' := 57) d_U_uniteTexts_55 rfl rfl ?_
        refine x_iload (pc' := 59) d_U_uniteTexts_57 rfl rfl ?_
        refine x_icmpgt (t := 191) (pc' := 62) d_U_uniteTexts_59 rfl rfl (fun q => absurd q (nI_nlt (by omega) (by omega))) (fun _ => ?_)
        refine x_aload_n (pc' := 63) d_U_uniteTexts_62 rfl rfl ?_
        refine x_getfield (ci := 2) (i := 1) (v := .ref 17) (pc' := 66) d_U_uniteTexts_63 rfl g_U_15 hU.1 rfl ?_
        refine x_iload (pc' := 68) d_U_uniteTexts_66 rfl rfl ?_
        refine x_iaload (v := nI x) (pc' := 69) d_U_uniteTexts_68 rfl g17 (vp_in_nI (by omega) (by decide)) (by rw [nI_clamp (by omega)]; exact e1) ?_
        refine x_iconst (v := (-1)) (pc' := 70) d_U_uniteTexts_69 rfl (by decide) ?_
        refine x_icmpeq (t := 185) (pc' := 73) d_U_uniteTexts_70 rfl rfl (fun q => absurd q (sp_nI_m1 (by omega))) (fun _ => ?_)
        refine x_aload_n (pc' := 74) d_U_uniteTexts_73 rfl rfl ?_
        refine x_getfield (ci := 2) (i := 2) (v := .ref 18) (pc' := 77) d_U_uniteTexts_74 rfl g_U_19 hU.1 rfl ?_
        refine x_iload (pc' := 79) d_U_uniteTexts_77 rfl rfl ?_
        refine x_iaload (v := nI y) (pc' := 80) d_U_uniteTexts_79 rfl g18 (vp_in_nI (by omega) (by decide)) (by rw [nI_clamp (by omega)]; exact e2) ?_
        refine x_iconst (v := (-1)) (pc' := 81) d_U_uniteTexts_80 rfl (by decide) ?_
        refine x_icmpeq (t := 185) (pc' := 84) d_U_uniteTexts_81 rfl rfl (fun q => absurd q (sp_nI_m1 (by omega))) (fun _ => ?_)
        refine x_lload_n (pc' := 85) d_U_uniteTexts_84 rfl rfl rfl ?_
        refine x_iload (pc' := 87) d_U_uniteTexts_85 rfl rfl ?_
        refine x_iload (pc' := 89) d_U_uniteTexts_87 rfl rfl ?_
        refine x_static (as := [.long (lN (sp_enc o)), .int (nI i), .int (nI k)]) (r := []) (v := (some (.long (lN (sp_enc (sp_sl o i k)))))) (h' := h) (st' := [.long (lN (sp_enc (sp_sl o i k)))]) (c' := 0) (s' := 0) (pc' := 92) d_U_uniteTexts_89 rfl c_U_58 rfl rfl (Nat.le_of_ble_eq_true rfl) (Nat.le_of_ble_eq_true rfl) (Nat.le_of_ble_eq_true rfl) (fun Q' hq => c_T_piece ho hik (by omega) hq) rfl rfl rfl ?_
        refine x_lload_n (pc' := 93) d_U_uniteTexts_92 rfl rfl rfl ?_
        refine x_iload (pc' := 95) d_U_uniteTexts_93 rfl rfl ?_
        refine x_aload_n (pc' := 96) d_U_uniteTexts_95 rfl rfl ?_
        refine x_getfield (ci := 2) (i := 1) (v := .ref 17) (pc' := 99) d_U_uniteTexts_96 rfl g_U_15 hU.1 rfl ?_
        refine x_iload (pc' := 101) d_U_uniteTexts_99 rfl rfl ?_
        refine x_iaload (v := nI x) (pc' := 102) d_U_uniteTexts_101 rfl g17 (vp_in_nI (by omega) (by decide)) (by rw [nI_clamp (by omega)]; exact e1) ?_
        refine x_static (as := [.long (lN (sp_enc a)), .int (nI p), .int (nI x)]) (r := [.long (lN (sp_enc (sp_sl o i k)))]) (v := (some (.long (lN (sp_enc (sp_sl a p x)))))) (h' := h) (st' := [.long (lN (sp_enc (sp_sl a p x))), .long (lN (sp_enc (sp_sl o i k)))]) (c' := 0) (s' := 0) (pc' := 105) d_U_uniteTexts_102 rfl c_U_58 rfl rfl (Nat.le_of_ble_eq_true rfl) (Nat.le_of_ble_eq_true rfl) (Nat.le_of_ble_eq_true rfl) (fun Q' hq => c_T_piece ha (by omega) (by omega) hq) rfl rfl rfl ?_
        refine x_lload (pc' := 107) d_U_uniteTexts_105 rfl rfl rfl ?_
        refine x_iload (pc' := 109) d_U_uniteTexts_107 rfl rfl ?_
        refine x_aload_n (pc' := 110) d_U_uniteTexts_109 rfl rfl ?_
        refine x_getfield (ci := 2) (i := 2) (v := .ref 18) (pc' := 113) d_U_uniteTexts_110 rfl g_U_19 hU.1 rfl ?_
        refine x_iload (pc' := 115) d_U_uniteTexts_113 rfl rfl ?_
        refine x_iaload (v := nI y) (pc' := 116) d_U_uniteTexts_115 rfl g18 (vp_in_nI (by omega) (by decide)) (by rw [nI_clamp (by omega)]; exact e2) ?_
        refine x_static (as := [.long (lN (sp_enc b)), .int (nI q), .int (nI y)]) (r := [.long (lN (sp_enc (sp_sl a p x))), .long (lN (sp_enc (sp_sl o i k)))]) (v := (some (.long (lN (sp_enc (sp_sl b q y)))))) (h' := h) (st' := [.long (lN (sp_enc (sp_sl b q y))), .long (lN (sp_enc (sp_sl a p x))), .long (lN (sp_enc (sp_sl o i k)))]) (c' := 0) (s' := 0) (pc' := 119) d_U_uniteTexts_116 rfl c_U_58 rfl rfl (Nat.le_of_ble_eq_true rfl) (Nat.le_of_ble_eq_true rfl) (Nat.le_of_ble_eq_true rfl) (fun Q' hq => c_T_piece hb (by omega) (by omega) hq) rfl rfl rfl ?_
        refine x_static (as := [.long (lN (sp_enc (sp_sl o i k))), .long (lN (sp_enc (sp_sl a p x))), .long (lN (sp_enc (sp_sl b q y)))]) (r := []) (v := (some (.long (sp_jv (sp_take (sp_sl o i k) (sp_sl a p x) (sp_sl b q y)))))) (h' := h) (st' := [.long (sp_jv (sp_take (sp_sl o i k) (sp_sl a p x) (sp_sl b q y)))]) (c' := 0) (s' := 0) (pc' := 122) d_U_uniteTexts_119 rfl c_U_33 rfl rfl (Nat.le_of_ble_eq_true rfl) (Nat.le_of_ble_eq_true rfl) (Nat.le_of_ble_eq_true rfl) (fun Q' hq => c_U_take (x_ql (sp_tk_jv (sp_wl_sl ho _ _) (sp_wl_sl ha _ _) (sp_wl_sl hb _ _)).symm hq)) rfl rfl rfl ?_
        refine x_lstore (lo' := [.ref 15, .long (lN (sp_enc o)), .float 0, .long (lN (sp_enc a)), .float 0, .long (lN (sp_enc b)), .float 0, .int (nI o.length), .int (nI i), .int (nI p), .int (nI q), .long (sp_jv R), .float 0, .int (nI k), .long (sp_jv (sp_take (sp_sl o i k) (sp_sl a p x) (sp_sl b q y))), .float 0]) (pc' := 124) d_U_uniteTexts_122 rfl (Nat.le_of_ble_eq_true rfl) rfl ?_
        refine x_lload (pc' := 126) d_U_uniteTexts_124 rfl rfl rfl ?_
        refine x_lload (pc' := 128) d_U_uniteTexts_126 rfl rfl rfl ?_
        refine x_static (as := [.long (sp_jv R), .long (sp_jv (sp_take (sp_sl o i k) (sp_sl a p x) (sp_sl b q y)))]) (r := []) (v := (some (.long (sp_jv (sp_join R (sp_take (sp_sl o i k) (sp_sl a p x) (sp_sl b q y))))))) (h' := h) (st' := [.long (sp_jv (sp_join R (sp_take (sp_sl o i k) (sp_sl a p x) (sp_sl b q y))))]) (c' := 0) (s' := 0) (pc' := 131) d_U_uniteTexts_128 rfl c_U_62 rfl rfl (Nat.le_of_ble_eq_true rfl) (Nat.le_of_ble_eq_true rfl) (Nat.le_of_ble_eq_true rfl) (fun Q' hq => c_T_join hR (sp_take_wt (sp_wl_sl ha _ _) (sp_wl_sl hb _ _)) hq) rfl rfl rfl ?_
        refine x_lstore (lo' := [.ref 15, .long (lN (sp_enc o)), .float 0, .long (lN (sp_enc a)), .float 0, .long (lN (sp_enc b)), .float 0, .int (nI o.length), .int (nI i), .int (nI p), .int (nI q), .long (sp_jv (sp_join R (sp_take (sp_sl o i k) (sp_sl a p x) (sp_sl b q y)))), .float 0, .int (nI k), .long (sp_jv (sp_take (sp_sl o i k) (sp_sl a p x) (sp_sl b q y))), .float 0]) (pc' := 133) d_U_uniteTexts_131 rfl (Nat.le_of_ble_eq_true rfl) rfl ?_
        refine x_iload (pc' := 135) d_U_uniteTexts_133 rfl rfl ?_
        refine x_iconst (v := nI 1) (pc' := 136) d_U_uniteTexts_135 rfl (by decide) ?_
        refine x_iadd (z := nI (k + 1)) (pc' := 137) d_U_uniteTexts_136 rfl (nI_add _ _) ?_
        refine x_istore (lo' := [.ref 15, .long (lN (sp_enc o)), .float 0, .long (lN (sp_enc a)), .float 0, .long (lN (sp_enc b)), .float 0, .int (nI o.length), .int (nI (k + 1)), .int (nI p), .int (nI q), .long (sp_jv (sp_join R (sp_take (sp_sl o i k) (sp_sl a p x) (sp_sl b q y)))), .float 0, .int (nI k), .long (sp_jv (sp_take (sp_sl o i k) (sp_sl a p x) (sp_sl b q y))), .float 0]) (pc' := 139) d_U_uniteTexts_137 rfl (Nat.le_of_ble_eq_true rfl) rfl ?_
        refine x_aload_n (pc' := 140) d_U_uniteTexts_139 rfl rfl ?_
        refine x_getfield (ci := 2) (i := 1) (v := .ref 17) (pc' := 143) d_U_uniteTexts_140 rfl g_U_15 hU.1 rfl ?_
        refine x_iload (pc' := 145) d_U_uniteTexts_143 rfl rfl ?_
        refine x_iaload (v := nI x) (pc' := 146) d_U_uniteTexts_145 rfl g17 (vp_in_nI (by omega) (by decide)) (by rw [nI_clamp (by omega)]; exact e1) ?_
        refine x_iconst (v := nI 1) (pc' := 147) d_U_uniteTexts_146 rfl (by decide) ?_
        refine x_iadd (z := nI (x + 1)) (pc' := 148) d_U_uniteTexts_147 rfl (nI_add _ _) ?_
        refine x_istore (lo' := [.ref 15, .long (lN (sp_enc o)), .float 0, .long (lN (sp_enc a)), .float 0, .long (lN (sp_enc b)), .float 0, .int (nI o.length), .int (nI (k + 1)), .int (nI (x + 1)), .int (nI q), .long (sp_jv (sp_join R (sp_take (sp_sl o i k) (sp_sl a p x) (sp_sl b q y)))), .float 0, .int (nI k), .long (sp_jv (sp_take (sp_sl o i k) (sp_sl a p x) (sp_sl b q y))), .float 0]) (pc' := 150) d_U_uniteTexts_148 rfl (Nat.le_of_ble_eq_true rfl) rfl ?_
        refine x_aload_n (pc' := 151) d_U_uniteTexts_150 rfl rfl ?_
        refine x_getfield (ci := 2) (i := 2) (v := .ref 18) (pc' := 154) d_U_uniteTexts_151 rfl g_U_19 hU.1 rfl ?_
        refine x_iload (pc' := 156) d_U_uniteTexts_154 rfl rfl ?_
        refine x_iaload (v := nI y) (pc' := 157) d_U_uniteTexts_156 rfl g18 (vp_in_nI (by omega) (by decide)) (by rw [nI_clamp (by omega)]; exact e2) ?_
        refine x_iconst (v := nI 1) (pc' := 158) d_U_uniteTexts_157 rfl (by decide) ?_
        refine x_iadd (z := nI (y + 1)) (pc' := 159) d_U_uniteTexts_158 rfl (nI_add _ _) ?_
        refine x_istore (lo' := [.ref 15, .long (lN (sp_enc o)), .float 0, .long (lN (sp_enc a)), .float 0, .long (lN (sp_enc b)), .float 0, .int (nI o.length), .int (nI (k + 1)), .int (nI (x + 1)), .int (nI (y + 1)), .long (sp_jv (sp_join R (sp_take (sp_sl o i k) (sp_sl a p x) (sp_sl b q y)))), .float 0, .int (nI k), .long (sp_jv (sp_take (sp_sl o i k) (sp_sl a p x) (sp_sl b q y))), .float 0]) (pc' := 161) d_U_uniteTexts_159 rfl (Nat.le_of_ble_eq_true rfl) rfl ?_
        refine x_iload (pc' := 163) d_U_uniteTexts_161 rfl rfl ?_
        refine x_iload (pc' := 165) d_U_uniteTexts_163 rfl rfl ?_
        refine x_icmpge (t := 185) (pc' := 168) d_U_uniteTexts_165 rfl rfl (fun q => absurd q (nI_ge hkn (by omega))) (fun _ => ?_)
        refine x_lload (pc' := 170) d_U_uniteTexts_168 rfl rfl rfl ?_
        refine x_lload_n (pc' := 171) d_U_uniteTexts_170 rfl rfl rfl ?_
        refine x_iload (pc' := 173) d_U_uniteTexts_171 rfl rfl ?_
        refine x_iload (pc' := 175) d_U_uniteTexts_173 rfl rfl ?_
        refine x_iconst (v := nI 1) (pc' := 176) d_U_uniteTexts_175 rfl (by decide) ?_
        refine x_iadd (z := nI (k + 1)) (pc' := 177) d_U_uniteTexts_176 rfl (nI_add _ _) ?_
        refine x_static (as := [.long (lN (sp_enc o)), .int (nI k), .int (nI (k + 1))]) (r := [.long (sp_jv (sp_join R (sp_take (sp_sl o i k) (sp_sl a p x) (sp_sl b q y))))]) (v := (some (.long (lN (sp_enc (sp_sl o k (k + 1))))))) (h' := h) (st' := [.long (lN (sp_enc (sp_sl o k (k + 1)))), .long (sp_jv (sp_join R (sp_take (sp_sl o i k) (sp_sl a p x) (sp_sl b q y))))]) (c' := 0) (s' := 0) (pc' := 180) d_U_uniteTexts_177 rfl c_U_58 rfl rfl (Nat.le_of_ble_eq_true rfl) (Nat.le_of_ble_eq_true rfl) (Nat.le_of_ble_eq_true rfl) (fun Q' hq => c_T_piece ho (by omega) (by omega) hq) rfl rfl rfl ?_
        refine x_static (as := [.long (sp_jv (sp_join R (sp_take (sp_sl o i k) (sp_sl a p x) (sp_sl b q y)))), .long (lN (sp_enc (sp_sl o k (k + 1))))]) (r := []) (v := (some (.long (sp_jv (sp_join (sp_join R (sp_take (sp_sl o i k) (sp_sl a p x) (sp_sl b q y))) (some [o.getD k 0])))))) (h' := h) (st' := [.long (sp_jv (sp_join (sp_join R (sp_take (sp_sl o i k) (sp_sl a p x) (sp_sl b q y))) (some [o.getD k 0])))]) (c' := 0) (s' := 0) (pc' := 183) d_U_uniteTexts_180 rfl c_U_62 rfl rfl (Nat.le_of_ble_eq_true rfl) (Nat.le_of_ble_eq_true rfl) (Nat.le_of_ble_eq_true rfl) (fun Q' hq => by rw [sp_sl1 hkn]; exact c_T_join (b := some [o.getD k 0]) (sp_join_wt hR (sp_take_wt (sp_wl_sl ha _ _) (sp_wl_sl hb _ _))) (fun l e => by rw [← sp_sl1 hkn] at e; cases e; exact sp_wl_sl ho _ _) hq) rfl rfl rfl ?_
        refine x_lstore (lo' := [.ref 15, .long (lN (sp_enc o)), .float 0, .long (lN (sp_enc a)), .float 0, .long (lN (sp_enc b)), .float 0, .int (nI o.length), .int (nI (k + 1)), .int (nI (x + 1)), .int (nI (y + 1)), .long (sp_jv (sp_join (sp_join R (sp_take (sp_sl o i k) (sp_sl a p x) (sp_sl b q y))) (some [o.getD k 0]))), .float 0, .int (nI k), .long (sp_jv (sp_take (sp_sl o i k) (sp_sl a p x) (sp_sl b q y))), .float 0]) (pc' := 185) d_U_uniteTexts_183 rfl (Nat.le_of_ble_eq_true rfl) rfl ?_
        refine x_iinc (y := nI (k + 1)) (lo' := [.ref 15, .long (lN (sp_enc o)), .float 0, .long (lN (sp_enc a)), .float 0, .long (lN (sp_enc b)), .float 0, .int (nI o.length), .int (nI (k + 1)), .int (nI (x + 1)), .int (nI (y + 1)), .long (sp_jv (sp_join (sp_join R (sp_take (sp_sl o i k) (sp_sl a p x) (sp_sl b q y))) (some [o.getD k 0]))), .float 0, .int (nI (k + 1)), .long (sp_jv (sp_take (sp_sl o i k) (sp_sl a p x) (sp_sl b q y))), .float 0]) (pc' := 188) d_U_uniteTexts_185 rfl rfl (sp_nI_inc k) rfl ?_
        refine x_goto (t := 55) d_U_uniteTexts_188 rfl ?_
        exact ih (k + 1) (k + 1) (x + 1) (y + 1) _ _ _ (by omega) (by omega) (by omega) (by omega) (fun k' x' h5 h6 => hxi k' x' (by omega) h6) (fun k' x' h5 h6 => hyi k' x' (by omega) h6) (sp_join_wt (sp_join_wt hR (sp_take_wt (sp_wl_sl ha _ _) (sp_wl_sl hb _ _))) (fun l e => by rw [← sp_sl1 hkn] at e; cases e; exact sp_wl_sl ho _ _)) (x_ql (by rw [sp_cgo_3 h1 h2]) hQ)
set_option maxHeartbeats 4000000 in
theorem c_U_uniteTexts {L : Nat} {xs : Nat → Int32} {d : Nat} {Q : xm_Q} {o a b : List Nat} (ho : sp_wl o) (ha : sp_wl a) (hb : sp_wl b) {h : xm_H} (hU : ch_U0 h) {pa pb : Nat → Int32} (hp1 : h[17]? = some (.inl (.int, 9, .inl pa))) (hp2 : h[18]? = some (.inl (.int, 9, .inl pb))) {cm : Nat → Nat → Int32} (hC : ch_C h cm)
    (hQ : ∀ h' : xm_H, xl_fr (fun k => 17 ≤ k ∧ k ≤ 28) h h' → ch_U0 h' → (∃ f : Nat → Int32, h'[17]? = some (.inl (.int, 9, .inl f))) → (∃ f : Nat → Int32, h'[18]? = some (.inl (.int, 9, .inl f))) → (∃ cm', ch_C h' cm') → Q (some (.long (sp_jv (sp_unite o a b)))) h') : xm_call L xs (d + 3) m_U_uniteTexts [.ref 15, .long (lN (sp_enc o)), .long (lN (sp_enc a)), .long (lN (sp_enc b))] h Q := by
  have l8 := ho.1
  refine x_call (lo := [.ref 15, .long (lN (sp_enc o)), .float 0, .long (lN (sp_enc a)), .float 0, .long (lN (sp_enc b)), .float 0, .float 0, .float 0, .float 0, .float 0, .float 0, .float 0, .float 0, .float 0, .float 0]) (Nat.le_of_ble_eq_true rfl) rfl ?_
  refine x_aload_n (pc' := 1) d_U_uniteTexts_0 rfl rfl ?_
  refine x_lload_n (pc' := 2) d_U_uniteTexts_1 rfl rfl rfl ?_
  refine x_lload_n (pc' := 3) d_U_uniteTexts_2 rfl rfl rfl ?_
  refine x_virtualR (a := 15) (as := [.long (lN (sp_enc o)), .long (lN (sp_enc a))]) (r := []) (Post := fun v h9 => v = none ∧ ∃ cm', xl_fr sp_CS h h9 ∧ ch_C h9 cm' ∧ ∀ x y, x ≤ o.length → y ≤ a.length → cm' x y = nI (sp_lcs (o.drop x) (a.drop y))) (c' := 0) (s' := 0) (pc' := 6) d_U_uniteTexts_3 rfl c_U_44 hU.1 rfl rfl (Nat.le_of_ble_eq_true rfl) (Nat.le_of_ble_eq_true rfl) (Nat.le_of_ble_eq_true rfl) (fun Q' hq => c_U_countCommon ho ha hU hC (fun h' cm' z1 z2 z3 => hq none h' ⟨rfl, cm', z1, z2, z3⟩)) rfl rfl (fun v9 h1 hp => ?_)
  obtain ⟨rfl, ch1, fh1, Ch1, Th1⟩ := hp
  have Uh1 := ch_U0_go hU fh1
  show xm_X L xs (xm_call L xs (d + 2)) m_U_uniteTexts (6, [.ref 15, .long (lN (sp_enc o)), .float 0, .long (lN (sp_enc a)), .float 0, .long (lN (sp_enc b)), .float 0, .float 0, .float 0, .float 0, .float 0, .float 0, .float 0, .float 0, .float 0, .float 0], [], h1, 0, 0) Q
  refine x_aload_n (pc' := 7) d_U_uniteTexts_6 rfl rfl ?_
  refine x_lload_n (pc' := 8) d_U_uniteTexts_7 rfl rfl rfl ?_
  refine x_lload_n (pc' := 9) d_U_uniteTexts_8 rfl rfl rfl ?_
  refine x_aload_n (pc' := 10) d_U_uniteTexts_9 rfl rfl ?_
  refine x_getfield (ci := 2) (i := 1) (v := .ref 17) (pc' := 13) d_U_uniteTexts_10 rfl g_U_15 Uh1.1 rfl ?_
  refine x_virtualR (a := 15) (as := [.long (lN (sp_enc o)), .long (lN (sp_enc a)), .ref 17]) (r := []) (Post := fun v h9 => v = none ∧ ∃ f : Nat → Int32, f o.length = nI a.length ∧ (∀ k, k < o.length → f k = sp_mv1 ((sp_mt o a 0).getD k none)) ∧ h9 = h1.set 17 (.inl (.int, 9, .inl f))) (c' := 0) (s' := 0) (pc' := 16) d_U_uniteTexts_13 rfl c_U_48 Uh1.1 rfl rfl (Nat.le_of_ble_eq_true rfl) (Nat.le_of_ble_eq_true rfl) (Nat.le_of_ble_eq_true rfl) (fun Q' hq => c_U_matchLines ho ha ⟨by decide, by decide⟩ ((fh1.2 17 (fun z => absurd z.1 (by decide))).trans hp1) Uh1 Ch1 Th1 (fun f z1 z2 => hq none _ ⟨rfl, f, z1, z2, rfl⟩)) rfl rfl (fun v9 h2 hp => ?_)
  obtain ⟨rfl, ph2, lh2, mh2, eh2⟩ := hp
  show xm_X L xs (xm_call L xs (d + 2)) m_U_uniteTexts (16, [.ref 15, .long (lN (sp_enc o)), .float 0, .long (lN (sp_enc a)), .float 0, .long (lN (sp_enc b)), .float 0, .float 0, .float 0, .float 0, .float 0, .float 0, .float 0, .float 0, .float 0, .float 0], [], h2, 0, 0) Q
  have U2 : ch_U0 h2 := by subst eh2; exact ⟨(xl_ne (by decide)).trans Uh1.1, (xl_ne (by decide)).trans Uh1.2⟩
  have C2 : ch_C h2 ch1 := by subst eh2; exact ch_C_go Ch1 (fun k h1 h2 => xl_ne (by omega))
  have g17 : h2[17]? = some (.inl (.int, 9, .inl ph2)) := by subst eh2; exact xl_at ((fh1.2 17 (fun z => absurd z.1 (by decide))).trans hp1)
  have g18 : h2[18]? = some (.inl (.int, 9, .inl pb)) := by subst eh2; exact (xl_ne (by decide)).trans ((fh1.2 18 (fun z => absurd z.1 (by decide))).trans hp2)
  refine x_aload_n (pc' := 17) d_U_uniteTexts_16 rfl rfl ?_
  refine x_lload_n (pc' := 18) d_U_uniteTexts_17 rfl rfl rfl ?_
  refine x_lload (pc' := 20) d_U_uniteTexts_18 rfl rfl rfl ?_
  refine x_virtualR (a := 15) (as := [.long (lN (sp_enc o)), .long (lN (sp_enc b))]) (r := []) (Post := fun v h9 => v = none ∧ ∃ cm', xl_fr sp_CS h2 h9 ∧ ch_C h9 cm' ∧ ∀ x y, x ≤ o.length → y ≤ b.length → cm' x y = nI (sp_lcs (o.drop x) (b.drop y))) (c' := 0) (s' := 0) (pc' := 23) d_U_uniteTexts_20 rfl c_U_44 U2.1 rfl rfl (Nat.le_of_ble_eq_true rfl) (Nat.le_of_ble_eq_true rfl) (Nat.le_of_ble_eq_true rfl) (fun Q' hq => c_U_countCommon ho hb U2 C2 (fun h' cm' z1 z2 z3 => hq none h' ⟨rfl, cm', z1, z2, z3⟩)) rfl rfl (fun v9 h3 hp => ?_)
  obtain ⟨rfl, ch3, fh3, Ch3, Th3⟩ := hp
  have Uh3 := ch_U0_go U2 fh3
  show xm_X L xs (xm_call L xs (d + 2)) m_U_uniteTexts (23, [.ref 15, .long (lN (sp_enc o)), .float 0, .long (lN (sp_enc a)), .float 0, .long (lN (sp_enc b)), .float 0, .float 0, .float 0, .float 0, .float 0, .float 0, .float 0, .float 0, .float 0, .float 0], [], h3, 0, 0) Q
  refine x_aload_n (pc' := 24) d_U_uniteTexts_23 rfl rfl ?_
  refine x_lload_n (pc' := 25) d_U_uniteTexts_24 rfl rfl rfl ?_
  refine x_lload (pc' := 27) d_U_uniteTexts_25 rfl rfl rfl ?_
  refine x_aload_n (pc' := 28) d_U_uniteTexts_27 rfl rfl ?_
  refine x_getfield (ci := 2) (i := 2) (v := .ref 18) (pc' := 31) d_U_uniteTexts_28 rfl g_U_19 Uh3.1 rfl ?_
  refine x_virtualR (a := 15) (as := [.long (lN (sp_enc o)), .long (lN (sp_enc b)), .ref 18]) (r := []) (Post := fun v h9 => v = none ∧ ∃ f : Nat → Int32, f o.length = nI b.length ∧ (∀ k, k < o.length → f k = sp_mv1 ((sp_mt o b 0).getD k none)) ∧ h9 = h3.set 18 (.inl (.int, 9, .inl f))) (c' := 0) (s' := 0) (pc' := 34) d_U_uniteTexts_31 rfl c_U_48 Uh3.1 rfl rfl (Nat.le_of_ble_eq_true rfl) (Nat.le_of_ble_eq_true rfl) (Nat.le_of_ble_eq_true rfl) (fun Q' hq => c_U_matchLines ho hb ⟨by decide, by decide⟩ ((fh3.2 18 (fun z => absurd z.1 (by decide))).trans g18) Uh3 Ch3 Th3 (fun f z1 z2 => hq none _ ⟨rfl, f, z1, z2, rfl⟩)) rfl rfl (fun v9 h4 hp => ?_)
  obtain ⟨rfl, ph4, lh4, mh4, eh4⟩ := hp
  show xm_X L xs (xm_call L xs (d + 2)) m_U_uniteTexts (34, [.ref 15, .long (lN (sp_enc o)), .float 0, .long (lN (sp_enc a)), .float 0, .long (lN (sp_enc b)), .float 0, .float 0, .float 0, .float 0, .float 0, .float 0, .float 0, .float 0, .float 0, .float 0], [], h4, 0, 0) Q
  have U4 : ch_U0 h4 := by subst eh4; exact ⟨(xl_ne (by decide)).trans Uh3.1, (xl_ne (by decide)).trans Uh3.2⟩
  have k17 : h4[17]? = some (.inl (.int, 9, .inl ph2)) := by subst eh4; exact (xl_ne (by decide)).trans ((fh3.2 17 (fun z => absurd z.1 (by decide))).trans g17)
  have k18 : h4[18]? = some (.inl (.int, 9, .inl ph4)) := by subst eh4; exact xl_at ((fh3.2 18 (fun z => absurd z.1 (by decide))).trans g18)
  have C4 : ch_C h4 ch3 := by subst eh4; exact ch_C_go Ch3 (fun k h1 h2 => xl_ne (by omega))
  have f4 : xl_fr (fun k => 17 ≤ k ∧ k ≤ 28) h h4 := by
    subst eh4
    refine xl_tr (xl_mono fh1 (fun k z => ⟨by omega, z.2⟩)) (xl_tr ?_ (xl_tr (xl_mono fh3 (fun k z => ⟨by omega, z.2⟩)) (xl_set ⟨by decide, by decide⟩)))
    subst eh2
    exact xl_set ⟨by decide, by decide⟩
  refine x_lload_n (pc' := 35) d_U_uniteTexts_34 rfl rfl rfl ?_
  refine x_static (as := [.long (lN (sp_enc o))]) (r := []) (v := (some (.int (nI o.length)))) (h' := h4) (st' := [.int (nI o.length)]) (c' := 0) (s' := 0) (pc' := 38) d_U_uniteTexts_35 rfl c_U_52 rfl rfl (Nat.le_of_ble_eq_true rfl) (Nat.le_of_ble_eq_true rfl) (Nat.le_of_ble_eq_true rfl) (fun Q' hq => c_T_countOf ho hq) rfl rfl rfl ?_
  refine x_istore (lo' := [.ref 15, .long (lN (sp_enc o)), .float 0, .long (lN (sp_enc a)), .float 0, .long (lN (sp_enc b)), .float 0, .int (nI o.length), .float 0, .float 0, .float 0, .float 0, .float 0, .float 0, .float 0, .float 0]) (pc' := 40) d_U_uniteTexts_38 rfl (Nat.le_of_ble_eq_true rfl) rfl ?_
  refine x_iconst (v := nI 0) (pc' := 41) d_U_uniteTexts_40 rfl (by decide) ?_
  refine x_istore (lo' := [.ref 15, .long (lN (sp_enc o)), .float 0, .long (lN (sp_enc a)), .float 0, .long (lN (sp_enc b)), .float 0, .int (nI o.length), .int (nI 0), .float 0, .float 0, .float 0, .float 0, .float 0, .float 0, .float 0]) (pc' := 43) d_U_uniteTexts_41 rfl (Nat.le_of_ble_eq_true rfl) rfl ?_
  refine x_iconst (v := nI 0) (pc' := 44) d_U_uniteTexts_43 rfl (by decide) ?_
  refine x_istore (lo' := [.ref 15, .long (lN (sp_enc o)), .float 0, .long (lN (sp_enc a)), .float 0, .long (lN (sp_enc b)), .float 0, .int (nI o.length), .int (nI 0), .int (nI 0), .float 0, .float 0, .float 0, .float 0, .float 0, .float 0]) (pc' := 46) d_U_uniteTexts_44 rfl (Nat.le_of_ble_eq_true rfl) rfl ?_
  refine x_iconst (v := nI 0) (pc' := 47) d_U_uniteTexts_46 rfl (by decide) ?_
  refine x_istore (lo' := [.ref 15, .long (lN (sp_enc o)), .float 0, .long (lN (sp_enc a)), .float 0, .long (lN (sp_enc b)), .float 0, .int (nI o.length), .int (nI 0), .int (nI 0), .int (nI 0), .float 0, .float 0, .float 0, .float 0, .float 0]) (pc' := 49) d_U_uniteTexts_47 rfl (Nat.le_of_ble_eq_true rfl) rfl ?_
  refine x_lconst (v := sp_jv (some [])) (pc' := 50) d_U_uniteTexts_49 rfl (by decide) ?_
  refine x_lstore (lo' := [.ref 15, .long (lN (sp_enc o)), .float 0, .long (lN (sp_enc a)), .float 0, .long (lN (sp_enc b)), .float 0, .int (nI o.length), .int (nI 0), .int (nI 0), .int (nI 0), .long (sp_jv (some [])), .float 0, .float 0, .float 0, .float 0]) (pc' := 52) d_U_uniteTexts_50 rfl (Nat.le_of_ble_eq_true rfl) rfl ?_
  refine x_iconst (v := nI 0) (pc' := 53) d_U_uniteTexts_52 rfl (by decide) ?_
  refine x_istore (lo' := [.ref 15, .long (lN (sp_enc o)), .float 0, .long (lN (sp_enc a)), .float 0, .long (lN (sp_enc b)), .float 0, .int (nI o.length), .int (nI 0), .int (nI 0), .int (nI 0), .long (sp_jv (some [])), .float 0, .int (nI 0), .float 0, .float 0]) (pc' := 55) d_U_uniteTexts_53 rfl (Nat.le_of_ble_eq_true rfl) rfl ?_
  refine l_U_ut ho ha hb U4 k17 k18 lh2 lh4 mh2 mh4 o.length 0 0 0 0 (some []) _ _ (by omega) (Nat.le_refl _) (Nat.zero_le _) (Nat.zero_le _) (fun _ _ _ _ => Nat.zero_le _) (fun _ _ _ _ => Nat.zero_le _) (fun l e => by cases e; exact ⟨by decide, fun d hd => by cases hd⟩) ?_
  rw [← sp_unite_cgo]
  exact hQ h4 f4 U4 ⟨_, k17⟩ ⟨_, k18⟩ ⟨_, C4⟩
end
section
/-! Snapshots united file by file; contract of uniteSnapshots. (Printed by c_snap.py.) -/
def ch_U (h : xm_H) (u : Nat → Int64) : Prop := ch_U0 h ∧ h[16]? = some (.inl (.long, 4, .inr (.inl u))) ∧ (∃ f : Nat → Int32, h[17]? = some (.inl (.int, 9, .inl f))) ∧ (∃ f : Nat → Int32, h[18]? = some (.inl (.int, 9, .inl f))) ∧ ∃ cm, ch_C h cm
abbrev sp_US : Nat → Prop := fun k => 16 ≤ k ∧ k ≤ 28
theorem ch_U_set {h : xm_H} {u v : Nat → Int64} (hU : ch_U h u) : ch_U (h.set 16 (.inl (.long, 4, .inr (.inl v)))) v := by
  obtain ⟨h0, h1, ⟨f1, h2⟩, ⟨f2, h3⟩, ⟨cm, h4⟩⟩ := hU
  exact ⟨⟨(xl_ne (by decide)).trans h0.1, (xl_ne (by decide)).trans h0.2⟩, xl_at h1, ⟨f1, (xl_ne (by decide)).trans h2⟩, ⟨f2, (xl_ne (by decide)).trans h3⟩, ⟨cm, ch_C_go h4 (fun k a b => xl_ne (by omega))⟩⟩
theorem ch_H_fr {h h' : xm_H} {H : sp_H} (hH : ch_H h H) {S : Nat → Prop} (hf : xl_fr S h h') (hS : ∀ k, 1 ≤ k → k ≤ 5 → ¬ S k) : ch_H h' H := ch_H_go hH (fun k h1 h2 => hf.2 k (hS k h1 h2))
theorem sp_tv5 {t : Option (List Nat)} (h : sp_wt t) : sp_tv t ≠ -5 := by
  cases t with
  | none => exact fun e => absurd e (by decide)
  | some t => exact sp_jv5 (h t rfl)
theorem sp_tv2 {t : List Nat} (h : sp_wl t) : sp_tv (some t) ≠ -2 := sp_lN_m2 (Nat.lt_of_lt_of_le (sp_enc_lt h.1 h.2) (by decide))
theorem sp_unite_wt {o a b : List Nat} (ho : sp_wl o) (ha : sp_wl a) (hb : sp_wl b) : sp_wt (sp_unite o a b) := by
  have key : ∀ r k i p q acc, (∀ d ∈ acc, d < 16) → ∀ t, sp_go o a b (sp_mt o a 0) (sp_mt o b 0) r k i p q acc = some t → k + r ≤ o.length → ∀ d ∈ t, d < 16 := by
    intro r
    induction r with
    | zero =>
      intro k i p q acc hacc t e hk d hd
      unfold sp_go at e
      rw [Option.map_eq_some_iff] at e
      obtain ⟨u, h1, rfl⟩ := e
      rcases List.mem_append.mp hd with h | h
      · exact hacc d h
      · exact (sp_take_wt (sp_wl_sl ha _ _) (sp_wl_sl hb _ _) u h1).2 d h
    | succ r ih =>
      intro k i p q acc hacc t e hk
      cases h1 : (sp_mt o a 0).getD k none with
      | none =>
        rw [sp_go_1 h1] at e
        exact ih _ _ _ _ _ hacc t e (by omega)
      | some x =>
        cases h2 : (sp_mt o b 0).getD k none with
        | none =>
          rw [sp_go_2 h1 h2] at e
          exact ih _ _ _ _ _ hacc t e (by omega)
        | some y =>
          rw [sp_go_3 h1 h2, Option.bind_eq_some_iff] at e
          obtain ⟨u, h3, h4⟩ := e
          refine ih _ _ _ _ _ (fun d hd => ?_) t h4 (by omega)
          rcases List.mem_append.mp hd with h | h
          · rcases List.mem_append.mp h with h | h
            · exact hacc d h
            · exact (sp_take_wt (sp_wl_sl ha _ _) (sp_wl_sl hb _ _) u h3).2 d h
          · rw [List.mem_singleton] at h
            rw [h]
            exact sp_line16 ho (by omega)
  intro l e
  unfold sp_unite at e
  rw [Option.bind_eq_some_iff] at e
  obtain ⟨u, h1, h2⟩ := e
  split at h2
  · rename_i h3
    cases h2
    exact ⟨h3, key _ _ _ _ _ _ (fun d hd => by cases hd) _ h1 (by omega)⟩
  · cases h2
def sp_un3 (o a b : Option (List Nat)) : Option (Option (List Nat)) := match o, a, b with
  | some o, some a, some b => (sp_unite o a b).map some
  | _, _, _ => none
theorem sp_file_3 {o a b : Option (List Nat)} (h1 : ¬ a = o) (h2 : ¬ (b = o ∨ b = a)) : sp_file o a b = sp_un3 o a b := (if_neg h1).trans ((if_neg h2).trans (by cases o <;> cases a <;> cases b <;> rfl))
theorem sp_file_wt {o a b : Option (List Nat)} (ho : sp_wt o) (ha : sp_wt a) (hb : sp_wt b) {t : Option (List Nat)} (e : sp_file o a b = some t) : sp_wt t := by
  unfold sp_file at e
  split at e
  · cases e
    exact hb
  · split at e
    · cases e
      exact ha
    · split at e
      · rename_i o a b _ _
        rw [Option.map_eq_some_iff] at e
        obtain ⟨u, h1, rfl⟩ := e
        intro l h2
        cases h2
        exact sp_unite_wt (ho o rfl) (ha a rfl) (hb b rfl) _ h1
      · cases e
theorem l_U_us1 {L : Nat} {xs : Nat → Int32} {d : Nat} {Q : xm_Q} {h : xm_H} {u : Nat → Int64} {c1 c2 c3 : Option Nat} {k : Nat} (hk : k < 4) (hU : ch_U h u) {O A B t : Option (List Nat)} (ht : sp_wt t) (htk : sp_tk (sp_tv O) (sp_tv A) (sp_tv B) = sp_tv t) {t12 t12b : Value}
    (K : xm_X L xs (xm_call L xs (d + 3)) m_U_uniteSnapshots (3, [.ref 15, .ref 1, .int (sp_vi c1), .int (sp_vi c2), .int (sp_vi c3), .int (nI (k + 1)), .long (sp_tv O), .float 0, .long (sp_tv A), .float 0, .long (sp_tv B), .float 0, .long (sp_tv t), .float 0], [], (h.set 16 (.inl (.long, 4, .inr (.inl (vp_updL u (nI k).toNatClampNeg (sp_tv t)))))), 0, 0) Q) : xm_X L xs (xm_call L xs (d + 3)) m_U_uniteSnapshots (37, [.ref 15, .ref 1, .int (sp_vi c1), .int (sp_vi c2), .int (sp_vi c3), .int (nI k), .long (sp_tv O), .float 0, .long (sp_tv A), .float 0, .long (sp_tv B), .float 0, t12, t12b], [], h, 0, 0) Q := by
  refine x_lload (pc' := 39) d_U_uniteSnapshots_37 rfl rfl rfl ?_
  refine x_lload (pc' := 41) d_U_uniteSnapshots_39 rfl rfl rfl ?_
  refine x_lload (pc' := 43) d_U_uniteSnapshots_41 rfl rfl rfl ?_
  refine x_static (as := [.long (sp_tv O), .long (sp_tv A), .long (sp_tv B)]) (r := []) (v := (some (.long (sp_tv t)))) (h' := h) (st' := [.long (sp_tv t)]) (c' := 0) (s' := 0) (pc' := 46) d_U_uniteSnapshots_43 rfl c_U_33 rfl rfl (Nat.le_of_ble_eq_true rfl) (Nat.le_of_ble_eq_true rfl) (Nat.le_of_ble_eq_true rfl) (fun Q' hq => c_U_take (x_ql htk.symm hq)) rfl rfl rfl ?_
  refine x_lstore (lo' := [.ref 15, .ref 1, .int (sp_vi c1), .int (sp_vi c2), .int (sp_vi c3), .int (nI k), .long (sp_tv O), .float 0, .long (sp_tv A), .float 0, .long (sp_tv B), .float 0, .long (sp_tv t), .float 0]) (pc' := 48) d_U_uniteSnapshots_46 rfl (Nat.le_of_ble_eq_true rfl) rfl ?_
  refine x_lload (pc' := 50) d_U_uniteSnapshots_48 rfl rfl rfl ?_
  refine x_ldc2_w (x := (-5)) (pc' := 53) d_U_uniteSnapshots_50 rfl k_U_37 ?_
  refine x_lcmp (z := lg_cmp (sp_tv t) (-5)) (pc' := 54) d_U_uniteSnapshots_53 rfl rfl ?_
  refine x_ifne (t := 96) (pc' := 57) d_U_uniteSnapshots_54 rfl rfl (fun _ => ?_) (fun q => absurd q (fun z => sp_tv5 ht ((lg_cmp_eq _ _).mp z)))
  refine x_lload (pc' := 98) d_U_uniteSnapshots_96 rfl rfl rfl ?_
  refine x_ldc2_w (x := (-5)) (pc' := 101) d_U_uniteSnapshots_98 rfl k_U_37 ?_
  refine x_lcmp (z := lg_cmp (sp_tv t) (-5)) (pc' := 102) d_U_uniteSnapshots_101 rfl rfl ?_
  refine x_ifne (t := 107) (pc' := 105) d_U_uniteSnapshots_102 rfl rfl (fun _ => ?_) (fun q => absurd q (fun z => sp_tv5 ht ((lg_cmp_eq _ _).mp z)))
  refine x_aload_n (pc' := 108) d_U_uniteSnapshots_107 rfl rfl ?_
  refine x_getfield (ci := 2) (i := 0) (v := .ref 16) (pc' := 111) d_U_uniteSnapshots_108 rfl g_U_9 hU.1.1 rfl ?_
  refine x_iload (pc' := 113) d_U_uniteSnapshots_111 rfl rfl ?_
  refine x_lload (pc' := 115) d_U_uniteSnapshots_113 rfl rfl rfl ?_
  refine x_lastore (h' := (h.set 16 (.inl (.long, 4, .inr (.inl (vp_updL u (nI k).toNatClampNeg (sp_tv t))))))) (pc' := 116) d_U_uniteSnapshots_115 rfl hU.2.1 (vp_in_nI hk (by decide)) rfl ?_
  refine x_iinc (y := nI (k + 1)) (lo' := [.ref 15, .ref 1, .int (sp_vi c1), .int (sp_vi c2), .int (sp_vi c3), .int (nI (k + 1)), .long (sp_tv O), .float 0, .long (sp_tv A), .float 0, .long (sp_tv B), .float 0, .long (sp_tv t), .float 0]) (pc' := 119) d_U_uniteSnapshots_116 rfl rfl (sp_nI_inc k) rfl ?_
  refine x_goto (t := 3) d_U_uniteSnapshots_119 rfl ?_
  exact K
theorem l_U_us2a {L : Nat} {xs : Nat → Int32} {d : Nat} {Q : xm_Q} {h : xm_H} {c1 c2 c3 : Option Nat} {k : Nat} {A B : Option (List Nat)} (htk : sp_tk (sp_tv (none)) (sp_tv (A)) (sp_tv (B)) = -5) {t12 t12b : Value} (hQ : Q (some (.int 0)) h) : xm_X L xs (xm_call L xs (d + 3)) m_U_uniteSnapshots (37, [.ref 15, .ref 1, .int (sp_vi c1), .int (sp_vi c2), .int (sp_vi c3), .int (nI k), .long (sp_tv (none)), .float 0, .long (sp_tv (A)), .float 0, .long (sp_tv (B)), .float 0, t12, t12b], [], h, 0, 0) Q := by
  refine x_lload (pc' := 39) d_U_uniteSnapshots_37 rfl rfl rfl ?_
  refine x_lload (pc' := 41) d_U_uniteSnapshots_39 rfl rfl rfl ?_
  refine x_lload (pc' := 43) d_U_uniteSnapshots_41 rfl rfl rfl ?_
  refine x_static (as := [.long (sp_tv (none)), .long (sp_tv (A)), .long (sp_tv (B))]) (r := []) (v := (some (.long (-5)))) (h' := h) (st' := [.long (-5)]) (c' := 0) (s' := 0) (pc' := 46) d_U_uniteSnapshots_43 rfl c_U_33 rfl rfl (Nat.le_of_ble_eq_true rfl) (Nat.le_of_ble_eq_true rfl) (Nat.le_of_ble_eq_true rfl) (fun Q' hq => c_U_take (x_ql htk.symm hq)) rfl rfl rfl ?_
  refine x_lstore (lo' := [.ref 15, .ref 1, .int (sp_vi c1), .int (sp_vi c2), .int (sp_vi c3), .int (nI k), .long (sp_tv (none)), .float 0, .long (sp_tv (A)), .float 0, .long (sp_tv (B)), .float 0, .long (-5), .float 0]) (pc' := 48) d_U_uniteSnapshots_46 rfl (Nat.le_of_ble_eq_true rfl) rfl ?_
  refine x_lload (pc' := 50) d_U_uniteSnapshots_48 rfl rfl rfl ?_
  refine x_ldc2_w (x := (-5)) (pc' := 53) d_U_uniteSnapshots_50 rfl k_U_37 ?_
  refine x_lcmp (z := lg_cmp (-5) (-5)) (pc' := 54) d_U_uniteSnapshots_53 rfl rfl ?_
  refine x_ifne (t := 96) (pc' := 57) d_U_uniteSnapshots_54 rfl rfl (fun q => absurd ((lg_cmp_eq _ _).mpr (rfl)) q) (fun _ => ?_)
  refine x_lload (pc' := 59) d_U_uniteSnapshots_57 rfl rfl rfl ?_
  refine x_ldc2_w (x := (-2)) (pc' := 62) d_U_uniteSnapshots_59 rfl k_U_39 ?_
  refine x_lcmp (z := lg_cmp (sp_tv (none)) (-2)) (pc' := 63) d_U_uniteSnapshots_62 rfl rfl ?_
  refine x_ifeq (t := 96) (pc' := 66) d_U_uniteSnapshots_63 rfl rfl (fun _ => ?_) (fun q => absurd ((lg_cmp_eq _ _).mpr (rfl)) q)
  refine x_lload (pc' := 98) d_U_uniteSnapshots_96 rfl rfl rfl ?_
  refine x_ldc2_w (x := (-5)) (pc' := 101) d_U_uniteSnapshots_98 rfl k_U_37 ?_
  refine x_lcmp (z := lg_cmp (-5) (-5)) (pc' := 102) d_U_uniteSnapshots_101 rfl rfl ?_
  refine x_ifne (t := 107) (pc' := 105) d_U_uniteSnapshots_102 rfl rfl (fun q => absurd ((lg_cmp_eq _ _).mpr (rfl)) q) (fun _ => ?_)
  refine x_iconst (v := 0) (pc' := 106) d_U_uniteSnapshots_105 rfl (by decide) ?_
  exact x_ireturn d_U_uniteSnapshots_106 rfl rfl hQ
theorem l_U_us2b {L : Nat} {xs : Nat → Int32} {d : Nat} {Q : xm_Q} {h : xm_H} {c1 c2 c3 : Option Nat} {k : Nat} {o : List Nat} {B : Option (List Nat)} (ho : sp_wl o) (htk : sp_tk (sp_tv (some o)) (sp_tv (none)) (sp_tv (B)) = -5) {t12 t12b : Value} (hQ : Q (some (.int 0)) h) : xm_X L xs (xm_call L xs (d + 3)) m_U_uniteSnapshots (37, [.ref 15, .ref 1, .int (sp_vi c1), .int (sp_vi c2), .int (sp_vi c3), .int (nI k), .long (sp_tv (some o)), .float 0, .long (sp_tv (none)), .float 0, .long (sp_tv (B)), .float 0, t12, t12b], [], h, 0, 0) Q := by
  refine x_lload (pc' := 39) d_U_uniteSnapshots_37 rfl rfl rfl ?_
  refine x_lload (pc' := 41) d_U_uniteSnapshots_39 rfl rfl rfl ?_
  refine x_lload (pc' := 43) d_U_uniteSnapshots_41 rfl rfl rfl ?_
  refine x_static (as := [.long (sp_tv (some o)), .long (sp_tv (none)), .long (sp_tv (B))]) (r := []) (v := (some (.long (-5)))) (h' := h) (st' := [.long (-5)]) (c' := 0) (s' := 0) (pc' := 46) d_U_uniteSnapshots_43 rfl c_U_33 rfl rfl (Nat.le_of_ble_eq_true rfl) (Nat.le_of_ble_eq_true rfl) (Nat.le_of_ble_eq_true rfl) (fun Q' hq => c_U_take (x_ql htk.symm hq)) rfl rfl rfl ?_
  refine x_lstore (lo' := [.ref 15, .ref 1, .int (sp_vi c1), .int (sp_vi c2), .int (sp_vi c3), .int (nI k), .long (sp_tv (some o)), .float 0, .long (sp_tv (none)), .float 0, .long (sp_tv (B)), .float 0, .long (-5), .float 0]) (pc' := 48) d_U_uniteSnapshots_46 rfl (Nat.le_of_ble_eq_true rfl) rfl ?_
  refine x_lload (pc' := 50) d_U_uniteSnapshots_48 rfl rfl rfl ?_
  refine x_ldc2_w (x := (-5)) (pc' := 53) d_U_uniteSnapshots_50 rfl k_U_37 ?_
  refine x_lcmp (z := lg_cmp (-5) (-5)) (pc' := 54) d_U_uniteSnapshots_53 rfl rfl ?_
  refine x_ifne (t := 96) (pc' := 57) d_U_uniteSnapshots_54 rfl rfl (fun q => absurd ((lg_cmp_eq _ _).mpr (rfl)) q) (fun _ => ?_)
  refine x_lload (pc' := 59) d_U_uniteSnapshots_57 rfl rfl rfl ?_
  refine x_ldc2_w (x := (-2)) (pc' := 62) d_U_uniteSnapshots_59 rfl k_U_39 ?_
  refine x_lcmp (z := lg_cmp (sp_tv (some o)) (-2)) (pc' := 63) d_U_uniteSnapshots_62 rfl rfl ?_
  refine x_ifeq (t := 96) (pc' := 66) d_U_uniteSnapshots_63 rfl rfl (fun q => absurd q (fun z => sp_tv2 ho ((lg_cmp_eq _ _).mp z))) (fun _ => ?_)
  refine x_lload (pc' := 68) d_U_uniteSnapshots_66 rfl rfl rfl ?_
  refine x_ldc2_w (x := (-2)) (pc' := 71) d_U_uniteSnapshots_68 rfl k_U_39 ?_
  refine x_lcmp (z := lg_cmp (sp_tv (none)) (-2)) (pc' := 72) d_U_uniteSnapshots_71 rfl rfl ?_
  refine x_ifeq (t := 96) (pc' := 75) d_U_uniteSnapshots_72 rfl rfl (fun _ => ?_) (fun q => absurd ((lg_cmp_eq _ _).mpr (rfl)) q)
  refine x_lload (pc' := 98) d_U_uniteSnapshots_96 rfl rfl rfl ?_
  refine x_ldc2_w (x := (-5)) (pc' := 101) d_U_uniteSnapshots_98 rfl k_U_37 ?_
  refine x_lcmp (z := lg_cmp (-5) (-5)) (pc' := 102) d_U_uniteSnapshots_101 rfl rfl ?_
  refine x_ifne (t := 107) (pc' := 105) d_U_uniteSnapshots_102 rfl rfl (fun q => absurd ((lg_cmp_eq _ _).mpr (rfl)) q) (fun _ => ?_)
  refine x_iconst (v := 0) (pc' := 106) d_U_uniteSnapshots_105 rfl (by decide) ?_
  exact x_ireturn d_U_uniteSnapshots_106 rfl rfl hQ
theorem l_U_us2c {L : Nat} {xs : Nat → Int32} {d : Nat} {Q : xm_Q} {h : xm_H} {c1 c2 c3 : Option Nat} {k : Nat} {o a : List Nat} (ho : sp_wl o) (ha : sp_wl a) (htk : sp_tk (sp_tv (some o)) (sp_tv (some a)) (sp_tv (none)) = -5) {t12 t12b : Value} (hQ : Q (some (.int 0)) h) : xm_X L xs (xm_call L xs (d + 3)) m_U_uniteSnapshots (37, [.ref 15, .ref 1, .int (sp_vi c1), .int (sp_vi c2), .int (sp_vi c3), .int (nI k), .long (sp_tv (some o)), .float 0, .long (sp_tv (some a)), .float 0, .long (sp_tv (none)), .float 0, t12, t12b], [], h, 0, 0) Q := by
  refine x_lload (pc' := 39) d_U_uniteSnapshots_37 rfl rfl rfl ?_
  refine x_lload (pc' := 41) d_U_uniteSnapshots_39 rfl rfl rfl ?_
  refine x_lload (pc' := 43) d_U_uniteSnapshots_41 rfl rfl rfl ?_
  refine x_static (as := [.long (sp_tv (some o)), .long (sp_tv (some a)), .long (sp_tv (none))]) (r := []) (v := (some (.long (-5)))) (h' := h) (st' := [.long (-5)]) (c' := 0) (s' := 0) (pc' := 46) d_U_uniteSnapshots_43 rfl c_U_33 rfl rfl (Nat.le_of_ble_eq_true rfl) (Nat.le_of_ble_eq_true rfl) (Nat.le_of_ble_eq_true rfl) (fun Q' hq => c_U_take (x_ql htk.symm hq)) rfl rfl rfl ?_
  refine x_lstore (lo' := [.ref 15, .ref 1, .int (sp_vi c1), .int (sp_vi c2), .int (sp_vi c3), .int (nI k), .long (sp_tv (some o)), .float 0, .long (sp_tv (some a)), .float 0, .long (sp_tv (none)), .float 0, .long (-5), .float 0]) (pc' := 48) d_U_uniteSnapshots_46 rfl (Nat.le_of_ble_eq_true rfl) rfl ?_
  refine x_lload (pc' := 50) d_U_uniteSnapshots_48 rfl rfl rfl ?_
  refine x_ldc2_w (x := (-5)) (pc' := 53) d_U_uniteSnapshots_50 rfl k_U_37 ?_
  refine x_lcmp (z := lg_cmp (-5) (-5)) (pc' := 54) d_U_uniteSnapshots_53 rfl rfl ?_
  refine x_ifne (t := 96) (pc' := 57) d_U_uniteSnapshots_54 rfl rfl (fun q => absurd ((lg_cmp_eq _ _).mpr (rfl)) q) (fun _ => ?_)
  refine x_lload (pc' := 59) d_U_uniteSnapshots_57 rfl rfl rfl ?_
  refine x_ldc2_w (x := (-2)) (pc' := 62) d_U_uniteSnapshots_59 rfl k_U_39 ?_
  refine x_lcmp (z := lg_cmp (sp_tv (some o)) (-2)) (pc' := 63) d_U_uniteSnapshots_62 rfl rfl ?_
  refine x_ifeq (t := 96) (pc' := 66) d_U_uniteSnapshots_63 rfl rfl (fun q => absurd q (fun z => sp_tv2 ho ((lg_cmp_eq _ _).mp z))) (fun _ => ?_)
  refine x_lload (pc' := 68) d_U_uniteSnapshots_66 rfl rfl rfl ?_
  refine x_ldc2_w (x := (-2)) (pc' := 71) d_U_uniteSnapshots_68 rfl k_U_39 ?_
  refine x_lcmp (z := lg_cmp (sp_tv (some a)) (-2)) (pc' := 72) d_U_uniteSnapshots_71 rfl rfl ?_
  refine x_ifeq (t := 96) (pc' := 75) d_U_uniteSnapshots_72 rfl rfl (fun q => absurd q (fun z => sp_tv2 ha ((lg_cmp_eq _ _).mp z))) (fun _ => ?_)
  refine x_lload (pc' := 77) d_U_uniteSnapshots_75 rfl rfl rfl ?_
  refine x_ldc2_w (x := (-2)) (pc' := 80) d_U_uniteSnapshots_77 rfl k_U_39 ?_
  refine x_lcmp (z := lg_cmp (sp_tv (none)) (-2)) (pc' := 81) d_U_uniteSnapshots_80 rfl rfl ?_
  refine x_ifeq (t := 96) (pc' := 84) d_U_uniteSnapshots_81 rfl rfl (fun _ => ?_) (fun q => absurd ((lg_cmp_eq _ _).mpr (rfl)) q)
  refine x_lload (pc' := 98) d_U_uniteSnapshots_96 rfl rfl rfl ?_
  refine x_ldc2_w (x := (-5)) (pc' := 101) d_U_uniteSnapshots_98 rfl k_U_37 ?_
  refine x_lcmp (z := lg_cmp (-5) (-5)) (pc' := 102) d_U_uniteSnapshots_101 rfl rfl ?_
  refine x_ifne (t := 107) (pc' := 105) d_U_uniteSnapshots_102 rfl rfl (fun q => absurd ((lg_cmp_eq _ _).mpr (rfl)) q) (fun _ => ?_)
  refine x_iconst (v := 0) (pc' := 106) d_U_uniteSnapshots_105 rfl (by decide) ?_
  exact x_ireturn d_U_uniteSnapshots_106 rfl rfl hQ
theorem l_U_us3 {L : Nat} {xs : Nat → Int32} {d : Nat} {Q : xm_Q} {h : xm_H} {u : Nat → Int64} {c1 c2 c3 : Option Nat} {k : Nat} (hk : k < 4) (hU : ch_U h u) {o a b : List Nat} (ho : sp_wl o) (ha : sp_wl a) (hb : sp_wl b) (htk : sp_tk (sp_tv (some o)) (sp_tv (some a)) (sp_tv (some b)) = -5) {t12 t12b : Value}
    (hno : sp_unite o a b = none → ∀ h1, xl_fr (fun k => 17 ≤ k ∧ k ≤ 28) h h1 → ch_U h1 u → Q (some (.int 0)) h1)
    (hyes : ∀ t, sp_unite o a b = some t → ∀ h1, xl_fr (fun k => 17 ≤ k ∧ k ≤ 28) h h1 → ch_U h1 u → xm_X L xs (xm_call L xs (d + 3)) m_U_uniteSnapshots (3, [.ref 15, .ref 1, .int (sp_vi c1), .int (sp_vi c2), .int (sp_vi c3), .int (nI (k + 1)), .long (sp_tv (some o)), .float 0, .long (sp_tv (some a)), .float 0, .long (sp_tv (some b)), .float 0, .long (sp_tv (some t)), .float 0], [], (h1.set 16 (.inl (.long, 4, .inr (.inl (vp_updL u (nI k).toNatClampNeg (sp_tv (some t))))))), 0, 0) Q) : xm_X L xs (xm_call L xs (d + 3)) m_U_uniteSnapshots (37, [.ref 15, .ref 1, .int (sp_vi c1), .int (sp_vi c2), .int (sp_vi c3), .int (nI k), .long (sp_tv (some o)), .float 0, .long (sp_tv (some a)), .float 0, .long (sp_tv (some b)), .float 0, t12, t12b], [], h, 0, 0) Q := by
  obtain ⟨f1, hf1⟩ := hU.2.2.1
  obtain ⟨f2, hf2⟩ := hU.2.2.2.1
  obtain ⟨cm, hC⟩ := hU.2.2.2.2
  refine x_lload (pc' := 39) d_U_uniteSnapshots_37 rfl rfl rfl ?_
  refine x_lload (pc' := 41) d_U_uniteSnapshots_39 rfl rfl rfl ?_
  refine x_lload (pc' := 43) d_U_uniteSnapshots_41 rfl rfl rfl ?_
  refine x_static (as := [.long (sp_tv (some o)), .long (sp_tv (some a)), .long (sp_tv (some b))]) (r := []) (v := (some (.long (-5)))) (h' := h) (st' := [.long (-5)]) (c' := 0) (s' := 0) (pc' := 46) d_U_uniteSnapshots_43 rfl c_U_33 rfl rfl (Nat.le_of_ble_eq_true rfl) (Nat.le_of_ble_eq_true rfl) (Nat.le_of_ble_eq_true rfl) (fun Q' hq => c_U_take (x_ql htk.symm hq)) rfl rfl rfl ?_
  refine x_lstore (lo' := [.ref 15, .ref 1, .int (sp_vi c1), .int (sp_vi c2), .int (sp_vi c3), .int (nI k), .long (sp_tv (some o)), .float 0, .long (sp_tv (some a)), .float 0, .long (sp_tv (some b)), .float 0, .long (-5), .float 0]) (pc' := 48) d_U_uniteSnapshots_46 rfl (Nat.le_of_ble_eq_true rfl) rfl ?_
  refine x_lload (pc' := 50) d_U_uniteSnapshots_48 rfl rfl rfl ?_
  refine x_ldc2_w (x := (-5)) (pc' := 53) d_U_uniteSnapshots_50 rfl k_U_37 ?_
  refine x_lcmp (z := lg_cmp (-5) (-5)) (pc' := 54) d_U_uniteSnapshots_53 rfl rfl ?_
  refine x_ifne (t := 96) (pc' := 57) d_U_uniteSnapshots_54 rfl rfl (fun q => absurd ((lg_cmp_eq _ _).mpr (rfl)) q) (fun _ => ?_)
  refine x_lload (pc' := 59) d_U_uniteSnapshots_57 rfl rfl rfl ?_
  refine x_ldc2_w (x := (-2)) (pc' := 62) d_U_uniteSnapshots_59 rfl k_U_39 ?_
  refine x_lcmp (z := lg_cmp (sp_tv (some o)) (-2)) (pc' := 63) d_U_uniteSnapshots_62 rfl rfl ?_
  refine x_ifeq (t := 96) (pc' := 66) d_U_uniteSnapshots_63 rfl rfl (fun q => absurd q (fun z => sp_tv2 ho ((lg_cmp_eq _ _).mp z))) (fun _ => ?_)
  refine x_lload (pc' := 68) d_U_uniteSnapshots_66 rfl rfl rfl ?_
  refine x_ldc2_w (x := (-2)) (pc' := 71) d_U_uniteSnapshots_68 rfl k_U_39 ?_
  refine x_lcmp (z := lg_cmp (sp_tv (some a)) (-2)) (pc' := 72) d_U_uniteSnapshots_71 rfl rfl ?_
  refine x_ifeq (t := 96) (pc' := 75) d_U_uniteSnapshots_72 rfl rfl (fun q => absurd q (fun z => sp_tv2 ha ((lg_cmp_eq _ _).mp z))) (fun _ => ?_)
  refine x_lload (pc' := 77) d_U_uniteSnapshots_75 rfl rfl rfl ?_
  refine x_ldc2_w (x := (-2)) (pc' := 80) d_U_uniteSnapshots_77 rfl k_U_39 ?_
  refine x_lcmp (z := lg_cmp (sp_tv (some b)) (-2)) (pc' := 81) d_U_uniteSnapshots_80 rfl rfl ?_
  refine x_ifeq (t := 96) (pc' := 84) d_U_uniteSnapshots_81 rfl rfl (fun q => absurd q (fun z => sp_tv2 hb ((lg_cmp_eq _ _).mp z))) (fun _ => ?_)
  refine x_aload_n (pc' := 85) d_U_uniteSnapshots_84 rfl rfl ?_
  refine x_lload (pc' := 87) d_U_uniteSnapshots_85 rfl rfl rfl ?_
  refine x_lload (pc' := 89) d_U_uniteSnapshots_87 rfl rfl rfl ?_
  refine x_lload (pc' := 91) d_U_uniteSnapshots_89 rfl rfl rfl ?_
  refine x_virtualR (a := 15) (as := [.long (sp_tv (some o)), .long (sp_tv (some a)), .long (sp_tv (some b))]) (r := []) (Post := fun v h9 => v = some (.long (sp_jv (sp_unite o a b))) ∧ xl_fr (fun k => 17 ≤ k ∧ k ≤ 28) h h9 ∧ ch_U h9 u) (c' := 0) (s' := 0) (pc' := 94) d_U_uniteSnapshots_91 rfl c_U_41 hU.1.1 rfl rfl (Nat.le_of_ble_eq_true rfl) (Nat.le_of_ble_eq_true rfl) (Nat.le_of_ble_eq_true rfl) (fun Q' hq => c_U_uniteTexts ho ha hb hU.1 hf1 hf2 hC (fun h' z1 z2 z3 z4 z5 => hq _ h' ⟨rfl, z1, z2, (z1.2 16 (fun z => absurd z.1 (by decide))).trans hU.2.1, z3, z4, z5⟩)) rfl rfl (fun v9 h1 hp => ?_)
  obtain ⟨rfl, f1, U1⟩ := hp
  show xm_X L xs (xm_call L xs (d + 3)) m_U_uniteSnapshots (94, [.ref 15, .ref 1, .int (sp_vi c1), .int (sp_vi c2), .int (sp_vi c3), .int (nI k), .long (sp_tv (some o)), .float 0, .long (sp_tv (some a)), .float 0, .long (sp_tv (some b)), .float 0, .long (-5), .float 0], [.long (sp_jv (sp_unite o a b))], h1, 0, 0) Q
  cases hj : sp_unite o a b with
  | none =>
    refine x_lstore (lo' := [.ref 15, .ref 1, .int (sp_vi c1), .int (sp_vi c2), .int (sp_vi c3), .int (nI k), .long (sp_tv (some o)), .float 0, .long (sp_tv (some a)), .float 0, .long (sp_tv (some b)), .float 0, .long (-5), .float 0]) (pc' := 96) d_U_uniteSnapshots_94 rfl (Nat.le_of_ble_eq_true rfl) rfl ?_
    refine x_lload (pc' := 98) d_U_uniteSnapshots_96 rfl rfl rfl ?_
    refine x_ldc2_w (x := (-5)) (pc' := 101) d_U_uniteSnapshots_98 rfl k_U_37 ?_
    refine x_lcmp (z := lg_cmp (-5) (-5)) (pc' := 102) d_U_uniteSnapshots_101 rfl rfl ?_
    refine x_ifne (t := 107) (pc' := 105) d_U_uniteSnapshots_102 rfl rfl (fun q => absurd ((lg_cmp_eq _ _).mpr (rfl)) q) (fun _ => ?_)
    refine x_iconst (v := 0) (pc' := 106) d_U_uniteSnapshots_105 rfl (by decide) ?_
    exact x_ireturn d_U_uniteSnapshots_106 rfl rfl (hno hj h1 f1 U1)
  | some t =>
    refine x_lstore (lo' := [.ref 15, .ref 1, .int (sp_vi c1), .int (sp_vi c2), .int (sp_vi c3), .int (nI k), .long (sp_tv (some o)), .float 0, .long (sp_tv (some a)), .float 0, .long (sp_tv (some b)), .float 0, .long (sp_tv (some t)), .float 0]) (pc' := 96) d_U_uniteSnapshots_94 rfl (Nat.le_of_ble_eq_true rfl) rfl ?_
    refine x_lload (pc' := 98) d_U_uniteSnapshots_96 rfl rfl rfl ?_
    refine x_ldc2_w (x := (-5)) (pc' := 101) d_U_uniteSnapshots_98 rfl k_U_37 ?_
    refine x_lcmp (z := lg_cmp (sp_tv (some t)) (-5)) (pc' := 102) d_U_uniteSnapshots_101 rfl rfl ?_
    refine x_ifne (t := 107) (pc' := 105) d_U_uniteSnapshots_102 rfl rfl (fun _ => ?_) (fun q => absurd q (fun z => sp_jv5 (sp_unite_wt ho ha hb t hj) ((lg_cmp_eq _ _).mp z)))
    refine x_aload_n (pc' := 108) d_U_uniteSnapshots_107 rfl rfl ?_
    refine x_getfield (ci := 2) (i := 0) (v := .ref 16) (pc' := 111) d_U_uniteSnapshots_108 rfl g_U_9 U1.1.1 rfl ?_
    refine x_iload (pc' := 113) d_U_uniteSnapshots_111 rfl rfl ?_
    refine x_lload (pc' := 115) d_U_uniteSnapshots_113 rfl rfl rfl ?_
    refine x_lastore (h' := (h1.set 16 (.inl (.long, 4, .inr (.inl (vp_updL u (nI k).toNatClampNeg (sp_tv (some t)))))))) (pc' := 116) d_U_uniteSnapshots_115 rfl U1.2.1 (vp_in_nI hk (by decide)) rfl ?_
    refine x_iinc (y := nI (k + 1)) (lo' := [.ref 15, .ref 1, .int (sp_vi c1), .int (sp_vi c2), .int (sp_vi c3), .int (nI (k + 1)), .long (sp_tv (some o)), .float 0, .long (sp_tv (some a)), .float 0, .long (sp_tv (some b)), .float 0, .long (sp_tv (some t)), .float 0]) (pc' := 119) d_U_uniteSnapshots_116 rfl rfl (sp_nI_inc k) rfl ?_
    refine x_goto (t := 3) d_U_uniteSnapshots_119 rfl ?_
    exact hyes t hj h1 f1 U1
theorem l_U_us4 {L : Nat} {xs : Nat → Int32} {d : Nat} {Q : xm_Q} {h : xm_H} {H : sp_H} {u : Nat → Int64} {c1 c2 c3 : Option Nat} (hH : ch_H h H) (hW : sp_WH H) (k1 : sp_ok (sp_n H) c1) (k2 : sp_ok (sp_n H) c2) (k3 : sp_ok (sp_n H) c3) {k : Nat} (hk : k < 4) (hU : ch_U h u) {u6 u7 u8 u9 u10 u11 u12 u13 : Value}
    (hno : sp_file (sp_of H c1 k) (sp_of H c2 k) (sp_of H c3 k) = none → ∀ h1, xl_fr sp_US h h1 → ch_U h1 u → Q (some (.int 0)) h1)
    (hyes : ∀ t, sp_file (sp_of H c1 k) (sp_of H c2 k) (sp_of H c3 k) = some t → ∀ h1, xl_fr sp_US h h1 → ch_U h1 (vp_updL u (nI k).toNatClampNeg (sp_tv t)) → ∀ u6 u7 u8 u9 u10 u11 u12 u13 : Value, xm_X L xs (xm_call L xs (d + 3)) m_U_uniteSnapshots (3, [.ref 15, .ref 1, .int (sp_vi c1), .int (sp_vi c2), .int (sp_vi c3), .int (nI (k + 1)), u6, u7, u8, u9, u10, u11, u12, u13], [], h1, 0, 0) Q) : xm_X L xs (xm_call L xs (d + 3)) m_U_uniteSnapshots (3, [.ref 15, .ref 1, .int (sp_vi c1), .int (sp_vi c2), .int (sp_vi c3), .int (nI k), u6, u7, u8, u9, u10, u11, u12, u13], [], h, 0, 0) Q := by
  refine x_iload (pc' := 5) d_U_uniteSnapshots_3 rfl rfl ?_
  refine x_iconst (v := nI 4) (pc' := 6) d_U_uniteSnapshots_5 rfl (by decide) ?_
  refine x_icmpge (t := 122) (pc' := 9) d_U_uniteSnapshots_6 rfl rfl (fun q => absurd q (nI_ge hk (by decide))) (fun _ => ?_)
  refine x_aload_n (pc' := 10) d_U_uniteSnapshots_9 rfl rfl ?_
  refine x_iload_n (pc' := 11) d_U_uniteSnapshots_10 rfl rfl ?_
  refine x_iload (pc' := 13) d_U_uniteSnapshots_11 rfl rfl ?_
  refine x_virtual (a := 1) (as := [.int (sp_vi c1), .int (nI k)]) (r := []) (v := (some (.long (sp_tv (sp_of H c1 k))))) (h' := h) (st' := [.long (sp_tv (sp_of H c1 k))]) (c' := 0) (s' := 0) (pc' := 16) d_U_uniteSnapshots_13 rfl c_U_27 hH.1.2 rfl rfl (Nat.le_of_ble_eq_true rfl) (Nat.le_of_ble_eq_true rfl) (Nat.le_of_ble_eq_true rfl) (fun Q' hq => c_H_textOf hH k1 hk hq) rfl rfl rfl ?_
  refine x_lstore (lo' := [.ref 15, .ref 1, .int (sp_vi c1), .int (sp_vi c2), .int (sp_vi c3), .int (nI k), .long (sp_tv (sp_of H c1 k)), .float 0, u8, u9, u10, u11, u12, u13]) (pc' := 18) d_U_uniteSnapshots_16 rfl (Nat.le_of_ble_eq_true rfl) rfl ?_
  refine x_aload_n (pc' := 19) d_U_uniteSnapshots_18 rfl rfl ?_
  refine x_iload_n (pc' := 20) d_U_uniteSnapshots_19 rfl rfl ?_
  refine x_iload (pc' := 22) d_U_uniteSnapshots_20 rfl rfl ?_
  refine x_virtual (a := 1) (as := [.int (sp_vi c2), .int (nI k)]) (r := []) (v := (some (.long (sp_tv (sp_of H c2 k))))) (h' := h) (st' := [.long (sp_tv (sp_of H c2 k))]) (c' := 0) (s' := 0) (pc' := 25) d_U_uniteSnapshots_22 rfl c_U_27 hH.1.2 rfl rfl (Nat.le_of_ble_eq_true rfl) (Nat.le_of_ble_eq_true rfl) (Nat.le_of_ble_eq_true rfl) (fun Q' hq => c_H_textOf hH k2 hk hq) rfl rfl rfl ?_
  refine x_lstore (lo' := [.ref 15, .ref 1, .int (sp_vi c1), .int (sp_vi c2), .int (sp_vi c3), .int (nI k), .long (sp_tv (sp_of H c1 k)), .float 0, .long (sp_tv (sp_of H c2 k)), .float 0, u10, u11, u12, u13]) (pc' := 27) d_U_uniteSnapshots_25 rfl (Nat.le_of_ble_eq_true rfl) rfl ?_
  refine x_aload_n (pc' := 28) d_U_uniteSnapshots_27 rfl rfl ?_
  refine x_iload (pc' := 30) d_U_uniteSnapshots_28 rfl rfl ?_
  refine x_iload (pc' := 32) d_U_uniteSnapshots_30 rfl rfl ?_
  refine x_virtual (a := 1) (as := [.int (sp_vi c3), .int (nI k)]) (r := []) (v := (some (.long (sp_tv (sp_of H c3 k))))) (h' := h) (st' := [.long (sp_tv (sp_of H c3 k))]) (c' := 0) (s' := 0) (pc' := 35) d_U_uniteSnapshots_32 rfl c_U_27 hH.1.2 rfl rfl (Nat.le_of_ble_eq_true rfl) (Nat.le_of_ble_eq_true rfl) (Nat.le_of_ble_eq_true rfl) (fun Q' hq => c_H_textOf hH k3 hk hq) rfl rfl rfl ?_
  refine x_lstore (lo' := [.ref 15, .ref 1, .int (sp_vi c1), .int (sp_vi c2), .int (sp_vi c3), .int (nI k), .long (sp_tv (sp_of H c1 k)), .float 0, .long (sp_tv (sp_of H c2 k)), .float 0, .long (sp_tv (sp_of H c3 k)), .float 0, u12, u13]) (pc' := 37) d_U_uniteSnapshots_35 rfl (Nat.le_of_ble_eq_true rfl) rfl ?_
  have wo := sp_WH_of hW k1 k hk
  have wa := sp_WH_of hW k2 k hk
  have wb := sp_WH_of hW k3 k hk
  revert hno hyes wo wa wb
  generalize sp_of H c1 k = O
  generalize sp_of H c2 k = A
  generalize sp_of H c3 k = B
  intro hno hyes wo wa wb
  have hset : ∀ v : Nat → Int64, xl_fr sp_US h (h.set 16 (.inl (.long, 4, .inr (.inl v)))) := fun v => xl_set ⟨by decide, by decide⟩
  by_cases h1 : A = O
  · exact l_U_us1 hk hU wb (by unfold sp_tk; rw [if_pos (by rw [h1])]) (hyes B (by unfold sp_file; rw [if_pos h1]) _ (hset _) (ch_U_set hU) _ _ _ _ _ _ _ _)
  · have e1 : ¬ sp_tv A = sp_tv O := fun e => h1 ((sp_tv_inj wa wo).mp e)
    by_cases h2 : B = O ∨ B = A
    · exact l_U_us1 hk hU wa (by unfold sp_tk; rw [if_neg e1, if_pos (h2.elim (fun e => Or.inl (by rw [e])) (fun e => Or.inr (by rw [e])))]) (hyes A (by unfold sp_file; rw [if_neg h1, if_pos h2]) _ (hset _) (ch_U_set hU) _ _ _ _ _ _ _ _)
    · have htk : sp_tk (sp_tv O) (sp_tv A) (sp_tv B) = -5 := by
        unfold sp_tk
        rw [if_neg e1, if_neg (fun e => h2 (e.elim (fun e => Or.inl ((sp_tv_inj wb wo).mp e)) (fun e => Or.inr ((sp_tv_inj wb wa).mp e))))]
      have hfl := sp_file_3 h1 h2
      cases O with
      | none => exact l_U_us2a htk (hno (by rw [hfl]; rfl) h xl_rf hU)
      | some o =>
        have ho := wo o rfl
        cases A with
        | none => exact l_U_us2b ho htk (hno (by rw [hfl]; rfl) h xl_rf hU)
        | some a =>
          have ha := wa a rfl
          cases B with
          | none => exact l_U_us2c ho ha htk (hno (by rw [hfl]; rfl) h xl_rf hU)
          | some b =>
            have hb := wb b rfl
            have hm : ∀ h1, xl_fr (fun k => 17 ≤ k ∧ k ≤ 28) h h1 → xl_fr sp_US h h1 := fun h1 f => xl_mono f (fun k z => ⟨by omega, z.2⟩)
            refine l_U_us3 hk hU ho ha hb htk (fun hj h1 f U => hno (by rw [hfl]; show (sp_unite o a b).map some = _; rw [hj]; rfl) h1 (hm h1 f) U) (fun t hj h1 f U => hyes (some t) (by rw [hfl]; show (sp_unite o a b).map some = _; rw [hj]; rfl) _ (xl_tr (hm h1 f) (xl_set ⟨by decide, by decide⟩)) (ch_U_set U) _ _ _ _ _ _ _ _)
theorem c_U_uniteSnapshots {L : Nat} {xs : Nat → Int32} {d : Nat} {Q : xm_Q} {h : xm_H} {H : sp_H} {u : Nat → Int64} {c1 c2 c3 : Option Nat} (hH : ch_H h H) (hW : sp_WH H) (k1 : sp_ok (sp_n H) c1) (k2 : sp_ok (sp_n H) c2) (k3 : sp_ok (sp_n H) c3) (hU : ch_U h u)
    (hQ0 : sp_snap (sp_of H c1) (sp_of H c2) (sp_of H c3) = none → ∀ h' u', xl_fr sp_US h h' → ch_U h' u' → Q (some (.int 0)) h')
    (hQ1 : ∀ t, sp_snap (sp_of H c1) (sp_of H c2) (sp_of H c3) = some t → ∀ h' u', xl_fr sp_US h h' → ch_U h' u' → (∀ j, j < 4 → u' j = sp_tv (t j)) → (∀ j, j < 4 → sp_wt (t j)) → Q (some (.int 1)) h') : xm_call L xs (d + 4) m_U_uniteSnapshots [.ref 15, .ref 1, .int (sp_vi c1), .int (sp_vi c2), .int (sp_vi c3)] h Q := by
  have hno : ∀ k, k < 4 → sp_file (sp_of H c1 k) (sp_of H c2 k) (sp_of H c3 k) = none → ∀ h' u', xl_fr sp_US h h' → ch_U h' u' → Q (some (.int 0)) h' := by
    intro k hk hn h' u' f U
    refine hQ0 ?_ h' u' f U
    unfold sp_snap
    match k, hk with
    | 0, _ => rw [hn]
    | 1, _ => rw [hn]; split <;> first | rfl | (rename_i z _ _; cases z) | (rename_i z _; cases z) | (rename_i z; cases z)
    | 2, _ => rw [hn]; split <;> first | rfl | (rename_i z _; cases z) | (rename_i z _ _; cases z) | (rename_i z; cases z)
    | 3, _ => rw [hn]; split <;> first | rfl | (rename_i z; cases z) | (rename_i z _; cases z) | (rename_i z _ _; cases z)
  have hyes : ∀ t0 t1 t2 t3, sp_file (sp_of H c1 0) (sp_of H c2 0) (sp_of H c3 0) = some t0 → sp_file (sp_of H c1 1) (sp_of H c2 1) (sp_of H c3 1) = some t1 → sp_file (sp_of H c1 2) (sp_of H c2 2) (sp_of H c3 2) = some t2 → sp_file (sp_of H c1 3) (sp_of H c2 3) (sp_of H c3 3) = some t3 → ∀ h', xl_fr sp_US h h' → ch_U h' (vp_updL (vp_updL (vp_updL (vp_updL u (nI 0).toNatClampNeg (sp_tv t0)) (nI 1).toNatClampNeg (sp_tv t1)) (nI 2).toNatClampNeg (sp_tv t2)) (nI 3).toNatClampNeg (sp_tv t3)) → Q (some (.int 1)) h' := by
    intro t0 t1 t2 t3 e0 e1 e2 e3 h' f U
    refine hQ1 (fun f => if f = 0 then t0 else if f = 1 then t1 else if f = 2 then t2 else t3) (by unfold sp_snap; rw [e0, e1, e2, e3]) h' _ f U (sp_u4 (fun j => sp_tv ((fun f => if f = 0 then t0 else if f = 1 then t1 else if f = 2 then t2 else t3) j)) u) (fun j hj => ?_)
    have z := fun k (hk : k < 4) t e => sp_file_wt (sp_WH_of hW k1 k hk) (sp_WH_of hW k2 k hk) (sp_WH_of hW k3 k hk) (t := t) e
    match j, hj with
    | 0, _ => exact z 0 (by decide) t0 e0
    | 1, _ => exact z 1 (by decide) t1 e1
    | 2, _ => exact z 2 (by decide) t2 e2
    | 3, _ => exact z 3 (by decide) t3 e3
  have hS : ∀ k, 1 ≤ k → k ≤ 5 → ¬ sp_US k := fun k _ h2 z => by have := z.1; omega
  refine x_call (lo := [.ref 15, .ref 1, .int (sp_vi c1), .int (sp_vi c2), .int (sp_vi c3), .float 0, .float 0, .float 0, .float 0, .float 0, .float 0, .float 0, .float 0, .float 0]) (Nat.le_of_ble_eq_true rfl) rfl ?_
  refine x_iconst (v := nI 0) (pc' := 1) d_U_uniteSnapshots_0 rfl (by decide) ?_
  refine x_istore (lo' := [.ref 15, .ref 1, .int (sp_vi c1), .int (sp_vi c2), .int (sp_vi c3), .int (nI 0), .float 0, .float 0, .float 0, .float 0, .float 0, .float 0, .float 0, .float 0]) (pc' := 3) d_U_uniteSnapshots_1 rfl (Nat.le_of_ble_eq_true rfl) rfl ?_
  refine l_U_us4 hH hW k1 k2 k3 (k := 0) (by decide) hU (fun e h1 f U => hno 0 (by decide) e h1 u f U) (fun t0 e0 h1 f1 U1 _ _ _ _ _ _ _ _ => ?_)
  refine l_U_us4 (ch_H_fr hH f1 hS) hW k1 k2 k3 (k := 1) (by decide) U1 (fun e h2 f U => hno 1 (by decide) e h2 _ (xl_tr f1 f) U) (fun t1 e1 h2 f2 U2 _ _ _ _ _ _ _ _ => ?_)
  refine l_U_us4 (ch_H_fr hH (xl_tr f1 f2) hS) hW k1 k2 k3 (k := 2) (by decide) U2 (fun e h3 f U => hno 2 (by decide) e h3 _ (xl_tr f1 (xl_tr f2 f)) U) (fun t2 e2 h3 f3 U3 _ _ _ _ _ _ _ _ => ?_)
  refine l_U_us4 (ch_H_fr hH (xl_tr f1 (xl_tr f2 f3)) hS) hW k1 k2 k3 (k := 3) (by decide) U3 (fun e h4 f U => hno 3 (by decide) e h4 _ (xl_tr f1 (xl_tr f2 (xl_tr f3 f))) U) (fun t3 e3 h4 f4 U4 u6 u7 u8 u9 u10 u11 u12 u13 => ?_)
  refine x_iload (pc' := 5) d_U_uniteSnapshots_3 rfl rfl ?_
  refine x_iconst (v := nI 4) (pc' := 6) d_U_uniteSnapshots_5 rfl (by decide) ?_
  refine x_icmpge (t := 122) (pc' := 9) d_U_uniteSnapshots_6 rfl rfl (fun _ => ?_) (fun q => absurd (nI_le (Nat.le_refl _) (by decide)) q)
  refine x_iconst (v := 1) (pc' := 123) d_U_uniteSnapshots_122 rfl (by decide) ?_
  exact x_ireturn d_U_uniteSnapshots_123 rfl rfl (hyes t0 t1 t2 t3 e0 e1 e2 e3 h4 (xl_tr f1 (xl_tr f2 (xl_tr f3 f4))) U4)
end
