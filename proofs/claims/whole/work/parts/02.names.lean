/-! Names: the classes whose objects the heap holds, their fields. (Printed by gen_names.py.) -/
abbrev tb_rc : String := "SnapshotVault$Repository"
def tn_H : u_T := fun k => match k with
  | 0 => ("SnapshotVault$History", "texts", "[J", true)
  | 1 => ("SnapshotVault$History", "firstParents", "[I", true)
  | 2 => ("SnapshotVault$History", "secondParents", "[I", true)
  | 3 => ("SnapshotVault$History", "reached", "[J", true)
  | _ => ("SnapshotVault$History", "size", "I", false)
def ty_H : Nat → FieldType := fun k => match k with
  | 0 => .array .long
  | 1 => .array .int
  | 2 => .array .int
  | 3 => .array .long
  | _ => .int
def tn_R : u_T := fun k => match k with
  | 0 => ("SnapshotVault$Repository", "tips", "[I", true)
  | 1 => ("SnapshotVault$Repository", "working", "[J", true)
  | 2 => ("SnapshotVault$Repository", "index", "[J", true)
  | 3 => ("SnapshotVault$Repository", "held", "J", false)
  | _ => ("SnapshotVault$Repository", "current", "I", false)
def ty_R : Nat → FieldType := fun k => match k with
  | 0 => .array .int
  | 1 => .array .long
  | 2 => .array .long
  | 3 => .long
  | _ => .int
def tn_U : u_T := fun k => match k with
  | 0 => ("SnapshotVault$Uniter", "united", "[J", true)
  | 1 => ("SnapshotVault$Uniter", "firstPartners", "[I", true)
  | 2 => ("SnapshotVault$Uniter", "secondPartners", "[I", true)
  | _ => ("SnapshotVault$Uniter", "common", "[[I", true)
def ty_U : Nat → FieldType := fun k => match k with
  | 0 => .array .long
  | 1 => .array .int
  | 2 => .array .int
  | _ => .array (.array .int)
def tn_V : u_T := fun k => match k with
  | 0 => ("SnapshotVault", "history", "LSnapshotVault$History;", true)
  | 1 => ("SnapshotVault", "repositories", "[LSnapshotVault$Repository;", true)
  | _ => ("SnapshotVault", "uniter", "LSnapshotVault$Uniter;", true)
def ty_V : Nat → FieldType := fun k => match k with
  | 0 => .object "SnapshotVault$History"
  | 1 => .array (.object "SnapshotVault$Repository")
  | _ => .object "SnapshotVault$Uniter"
def tn_M : u_T := fun k => match k with
  | 0 => ("SnapshotVaultModel", "made", "I", false)
  | 1 => ("SnapshotVaultModel", "texts", "[J", true)
  | 2 => ("SnapshotVaultModel", "first", "[I", true)
  | 3 => ("SnapshotVaultModel", "second", "[I", true)
  | 4 => ("SnapshotVaultModel", "held", "[J", true)
  | 5 => ("SnapshotVaultModel", "tips", "[I", true)
  | 6 => ("SnapshotVaultModel", "now", "[I", true)
  | 7 => ("SnapshotVaultModel", "work", "[J", true)
  | 8 => ("SnapshotVaultModel", "index", "[J", true)
  | 9 => ("SnapshotVaultModel", "origin", "[J", true)
  | 10 => ("SnapshotVaultModel", "ours", "[J", true)
  | 11 => ("SnapshotVaultModel", "theirs", "[J", true)
  | 12 => ("SnapshotVaultModel", "joined", "[J", true)
  | 13 => ("SnapshotVaultModel", "withA", "[I", true)
  | 14 => ("SnapshotVaultModel", "withB", "[I", true)
  | 15 => ("SnapshotVaultModel", "common", "[I", true)
  | 16 => ("SnapshotVaultModel", "taken", "I", false)
  | 17 => ("SnapshotVaultModel", "lines", "[I", true)
  | _ => ("SnapshotVaultModel", "steps", "[J", true)
def ty_M : Nat → FieldType := fun k => match k with
  | 0 => .int
  | 1 => .array .long
  | 2 => .array .int
  | 3 => .array .int
  | 4 => .array .long
  | 5 => .array .int
  | 6 => .array .int
  | 7 => .array .long
  | 8 => .array .long
  | 9 => .array .long
  | 10 => .array .long
  | 11 => .array .long
  | 12 => .array .long
  | 13 => .array .int
  | 14 => .array .int
  | 15 => .array .int
  | 16 => .int
  | 17 => .array .int
  | _ => .array .long
abbrev vwCl : List vw_C := [("SnapshotVault$History", tn_H, 5), ("SnapshotVault$Repository", tn_R, 5), ("SnapshotVault$Uniter", tn_U, 4), ("SnapshotVault", tn_V, 3), ("SnapshotVaultModel", tn_M, 19)]
