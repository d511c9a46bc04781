/-! ===== the abstract machine: ints are integers in range, cells are functions; what a run of a method must meet is computed ===== -/
abbrev AV : Type := Int ⊕ (Int64 ⊕ Option Nat)
def vI (z : Int) : AV := Sum.inl z
def vL (x : Int64) : AV := Sum.inr (Sum.inl x)
def vR (a : Nat) : AV := Sum.inr (Sum.inr (some a))
def vN : AV := Sum.inr (Sum.inr none)
abbrev Lc : Type := List (Nat × AV)
/-- memory: cells so far, slots so far, layout (kind, length), references, ints, longs -/
abbrev Mm : Type := Nat × Nat × (Nat → Nat × Int) × (Nat → Int → Nat) × (Nat → Int → Int) × (Nat → Int → Int64)
abbrev Tr : Type := List AV → Mm → (Option AV → Mm → Prop) → Prop
/-- what the machine needs to know of a method: fields, classes, constants, calls (arguments, depth, cells, slots, transformer), depth, kind of answer (0 int 1 truth 2 other), constructor or not -/
abbrev Cx : Type := (Nat → Nat × Int × Nat) × (Nat → Nat) × (Nat → Option Int) × (Nat → Option Int64) × (Nat → Nat × Nat × Nat × Nat × Tr) × Nat × Nat × Bool
def xfl (c : Cx) : Nat → Nat × Int × Nat := c.1
def xnc (c : Cx) : Nat → Nat := c.2.1
def xkc (c : Cx) : Nat → Option Int := c.2.2.1
def xkl (c : Cx) : Nat → Option Int64 := c.2.2.2.1
def xE (c : Cx) : Nat → Nat × Nat × Nat × Nat × Tr := c.2.2.2.2.1
def xd (c : Cx) : Nat := c.2.2.2.2.2.1
def xrb (c : Cx) : Nat := c.2.2.2.2.2.2.1
def xin (c : Cx) : Bool := c.2.2.2.2.2.2.2
def inR (z : Int) : Prop := -2147483648 ≤ z ∧ z ≤ 2147483647
def acat : AV → Nat
  | Sum.inr (Sum.inl _) => 2
  | _ => 1
def fu {α : Type} (f : Nat → α) (a : Nat) (v : α) : Nat → α := fun b => if b = a then v else f b
def iu {α : Type} (f : Int → α) (i : Int) (v : α) : Int → α := fun j => if j = i then v else f j
def pI (st : List AV) (k : Int → List AV → Prop) : Prop := match st with
  | Sum.inl z :: st => k z st
  | _ => False
def pL (st : List AV) (k : Int64 → List AV → Prop) : Prop := match st with
  | Sum.inr (Sum.inl z) :: st => k z st
  | _ => False
def pR (st : List AV) (k : Nat → List AV → Prop) : Prop := match st with
  | Sum.inr (Sum.inr (some z)) :: st => k z st
  | _ => False
def pA (st : List AV) (k : AV → List AV → Prop) : Prop := match st with
  | Sum.inr (Sum.inr z) :: st => k (Sum.inr (Sum.inr z)) st
  | _ => False
/-- null, or not -/
def pN (st : List AV) (k0 k1 : List AV → Prop) : Prop := match st with
  | Sum.inr (Sum.inr none) :: st => k0 st
  | Sum.inr (Sum.inr (some _)) :: st => k1 st
  | _ => False
def lget : Lc → Nat → Option AV
  | [], _ => none
  | q :: t, i => if q.1 = i then some q.2 else lget t i
def lrm1 (i : Nat) : Lc → Lc
  | [] => []
  | q :: t => if q.1 = i ∨ (q.1 + 1 = i ∧ acat q.2 = 2) then lrm1 i t else q :: lrm1 i t
def lrm2 (i : Nat) : Lc → Lc
  | [] => []
  | q :: t => if q.1 = i ∨ q.1 = i + 1 ∨ (q.1 + 1 = i ∧ acat q.2 = 2) then lrm2 i t else q :: lrm2 i t
def oI (o : Option AV) (k : Int → Prop) : Prop := match o with
  | some (Sum.inl z) => k z
  | _ => False
def oL (o : Option AV) (k : Int64 → Prop) : Prop := match o with
  | some (Sum.inr (Sum.inl z)) => k z
  | _ => False
def oA (o : Option AV) (k : AV → Prop) : Prop := match o with
  | some (Sum.inr (Sum.inr z)) => k (Sum.inr (Sum.inr z))
  | _ => False
def oZ (o : Option Int) (k : Int → Prop) : Prop := match o with
  | some v => k v
  | none => False
def oY (o : Option Int64) (k : Int64 → Prop) : Prop := match o with
  | some v => k v
  | none => False
def popN : Nat → List AV → List AV → (List AV → List AV → Prop) → Prop
  | 0, st, acc, k => k acc st
  | n + 1, v :: st, acc, k => popN n st (v :: acc) k
  | _ + 1, [], _, _ => False
def stw : List AV → Nat
  | [] => 0
  | v :: t => acat v + stw t
def psh (r : Option AV) (st : List AV) : List AV := match r with
  | some v => v :: st
  | none => st
def andZ (a b : Int) : Int := (Int32.ofInt a &&& Int32.ofInt b).toInt
def orZ (a b : Int) : Int := (Int32.ofInt a ||| Int32.ofInt b).toInt
def shlZ (a b : Int) : Int := (Int32.ofInt a <<< (Int32.ofInt b &&& 31)).toInt
def shrZ (a b : Int) : Int := (Int32.ofInt a >>> (Int32.ofInt b &&& 31)).toInt
def i2bZ (a : Int) : Int := (Int32.ofInt a).toInt8.toInt32.toInt
def l2iZ (x : Int64) : Int := x.toInt32.toInt
def shlL (x : Int64) (b : Int) : Int64 := x <<< ((Int32.ofInt b).toInt64 &&& 63)
def ushrL (x : Int64) (b : Int) : Int64 := (x.toUInt64 >>> ((Int32.ofInt b).toInt64.toUInt64 &&& Int64.toUInt64 63)).toInt64
def cmpL (x y : Int64) : Int := if x > y then 1 else if x = y then 0 else -1
def icp : Jvm.ClassFile.Cond → Int → Int → Prop
  | .eq, a, b => a = b
  | .ne, a, b => ¬ a = b
  | .lt, a, b => a < b
  | .ge, a, b => b ≤ a
  | .gt, a, b => b < a
  | .le, a, b => a ≤ b
/-- a field: class, place, kind -/
def wgf (f : Nat × Int × Nat) (lay : Nat → Nat × Int) (ρ : Nat → Int → Nat) (σ : Nat → Int → Int) (a : Nat) (k : AV → Prop) : Prop := match f with
  | (ci, j, 1) => lay a = (10 + ci, 0) ∧ ¬ ρ a j = 0 ∧ k (vR (ρ a j))
  | (ci, j, 0) => lay a = (10 + ci, 0) ∧ k (vI (σ a j))
  | (ci, j, 2) => lay a = (10 + ci, 0) ∧ k (vI (σ a j))
  | (ci, j, 3) => lay a = (10 + ci, 0) ∧ ¬ ρ a j = 0 ∧ k (vR (ρ a j))
  | (ci, j, 4) => lay a = (10 + ci, 0) ∧ k (vI (σ a j))
  | _ => False
/-- ints, and truths; K takes the new ints -/
def wpf (ini : Bool) (f : Nat × Int × Nat) (lay : Nat → Nat × Int) (ρ : Nat → Int → Nat) (σ : Nat → Int → Int) (st : List AV) (k : (Nat → Int → Nat) → (Nat → Int → Int) → List AV → Prop) : Prop := match f with
  | (ci, j, 0) => pI st fun v st => pR st fun a st => lay a = (10 + ci, 0) ∧ k ρ (fu σ a (iu (σ a) j v)) st
  | (ci, j, 1) => ini = true ∧ pR st fun b st => pR st fun a st => lay a = (10 + ci, 0) ∧ ¬ b = 0 ∧ k (fu ρ a (iu (ρ a) j b)) σ st
  | (ci, j, 2) => pI st fun v st => pR st fun a st => lay a = (10 + ci, 0) ∧ (v = 0 ∨ v = 1) ∧ k ρ (fu σ a (iu (σ a) j v)) st
  | _ => False
def wnew (lim : Nat × Nat) (kd : Nat) (n : Int) (w : Nat) (M : Mm) (k : Nat → Mm → Prop) : Prop :=
  M.1 + 1 ≤ lim.1 ∧ M.2.1 + w ≤ lim.2 ∧ k M.1 (M.1 + 1, M.2.1 + w, fu M.2.2.1 M.1 (kd, n), fu M.2.2.2.1 M.1 (fun _ => 0), fu M.2.2.2.2.1 M.1 (fun _ => 0), fu M.2.2.2.2.2 M.1 (fun _ => 0))
def akd : ArrayType → Nat
  | .int => 1
  | .byte => 2
  | .boolean => 3
  | .long => 4
  | _ => 0
def rbk (r : Nat) (v : Int) : Prop := match r with
  | 0 => True
  | 1 => v = 0 ∨ v = 1
  | _ => False
def callE (x : Nat × Nat × Nat × Nat × Tr) (d : Nat) (lim : Nat × Nat) (st : List AV) (M : Mm) (k : List AV → Mm → Prop) : Prop := match x with
  | (na, dc, mc, ms, T) => popN na st [] fun as st => dc < d ∧ stw st ≤ 8 ∧ M.1 + mc ≤ lim.1 ∧ M.2.1 + ms ≤ lim.2 ∧ T as M fun r M' => k (psh r st) M'
def tsw (x : Int) : Int → List Nat → (Nat → Prop) → Prop
  | _, [], _ => True
  | v, t :: ts, f => (x = v → f t) ∧ tsw x (v + 1) ts f
def lsw (x : Int) : List (Int × Int) → List Nat → (Nat → Prop) → Prop
  | (v, _) :: ps, t :: ts, f => (x = v → f t) ∧ lsw x ps ts f
  | _, _, _ => True

/-- one instruction: what must hold that the machine goes on with K -/
def stepI (c : Cx) (lim : Nat × Nat) (Q : Option AV → Mm → Prop) (K : Nat → Lc → List AV → Mm → Prop) (i : Instr) (ts : List Nat) (pc : Nat) (ls : Lc) (st : List AV) (M : Mm) : Prop := match i with
  | .iload_n k => oI (lget ls k.val) fun z => K (pc + 1) ls (vI z :: st) M
  | .iload k => oI (lget ls k) fun z => K (pc + 2) ls (vI z :: st) M
  | .lload_n k => oL (lget ls k.val) fun z => K (pc + 1) ls (vL z :: st) M
  | .lload k => oL (lget ls k) fun z => K (pc + 2) ls (vL z :: st) M
  | .aload_n k => oA (lget ls k.val) fun v => K (pc + 1) ls (v :: st) M
  | .aload k => oA (lget ls k) fun v => K (pc + 2) ls (v :: st) M
  | .istore_n k => pI st fun z st => K (pc + 1) ((k.val, vI z) :: lrm1 k.val ls) st M
  | .istore k => pI st fun z st => K (pc + 2) ((k, vI z) :: lrm1 k ls) st M
  | .astore_n k => pA st fun v st => K (pc + 1) ((k.val, v) :: lrm1 k.val ls) st M
  | .astore k => pA st fun v st => K (pc + 2) ((k, v) :: lrm1 k ls) st M
  | .lstore_n k => pL st fun z st => K (pc + 1) ((k.val, vL z) :: lrm2 k.val ls) st M
  | .lstore k => pL st fun z st => K (pc + 2) ((k, vL z) :: lrm2 k ls) st M
  | .iconst n => inR n ∧ K (pc + 1) ls (vI n :: st) M
  | .bipush n => (-128 ≤ n ∧ n ≤ 127) ∧ K (pc + 2) ls (vI n :: st) M
  | .sipush n => (-32768 ≤ n ∧ n ≤ 32767) ∧ K (pc + 3) ls (vI n :: st) M
  | .ldc j => oZ (xkc c j) fun z => inR z ∧ K (pc + 2) ls (vI z :: st) M
  | .ldc2_w j => oY (xkl c j) fun z => K (pc + 3) ls (vL z :: st) M
  | .lconst n => K (pc + 1) ls (vL (Int64.ofNat n.val) :: st) M
  | .aconst_null => K (pc + 1) ls (vN :: st) M
  | .iinc k n => oI (lget ls k) fun z => inR n ∧ inR (z + n) ∧ K (pc + 3) ((k, vI (z + n)) :: lrm1 k ls) st M
  | .dup => (match st with | v :: st => acat v = 1 ∧ K (pc + 1) ls (v :: v :: st) M | [] => False)
  | .dup2 => (match st with | v :: w :: st => acat v = 1 ∧ acat w = 1 ∧ K (pc + 1) ls (v :: w :: v :: w :: st) M | _ => False)
  | .iadd => pI st fun b st => pI st fun a st => inR (a + b) ∧ K (pc + 1) ls (vI (a + b) :: st) M
  | .isub => pI st fun b st => pI st fun a st => inR (a - b) ∧ K (pc + 1) ls (vI (a - b) :: st) M
  | .imul => pI st fun b st => pI st fun a st => inR (a * b) ∧ K (pc + 1) ls (vI (a * b) :: st) M
  | .idiv => pI st fun b st => pI st fun a st => 0 ≤ a ∧ 0 < b ∧ K (pc + 1) ls (vI (a / b) :: st) M
  | .irem => pI st fun b st => pI st fun a st => 0 ≤ a ∧ 0 < b ∧ K (pc + 1) ls (vI (a % b) :: st) M
  | .iand => pI st fun b st => pI st fun a st => K (pc + 1) ls (vI (andZ a b) :: st) M
  | .ior => pI st fun b st => pI st fun a st => K (pc + 1) ls (vI (orZ a b) :: st) M
  | .ishl => pI st fun b st => pI st fun a st => K (pc + 1) ls (vI (shlZ a b) :: st) M
  | .ishr => pI st fun b st => pI st fun a st => K (pc + 1) ls (vI (shrZ a b) :: st) M
  | .ladd => pL st fun b st => pL st fun a st => K (pc + 1) ls (vL (a + b) :: st) M
  | .lmul => pL st fun b st => pL st fun a st => K (pc + 1) ls (vL (a * b) :: st) M
  | .lor => pL st fun b st => pL st fun a st => K (pc + 1) ls (vL (a ||| b) :: st) M
  | .lxor => pL st fun b st => pL st fun a st => K (pc + 1) ls (vL (a ^^^ b) :: st) M
  | .lshl => pI st fun b st => pL st fun a st => K (pc + 1) ls (vL (shlL a b) :: st) M
  | .lushr => pI st fun b st => pL st fun a st => K (pc + 1) ls (vL (ushrL a b) :: st) M
  | .lcmp => pL st fun b st => pL st fun a st => K (pc + 1) ls (vI (cmpL a b) :: st) M
  | .i2b => pI st fun a st => K (pc + 1) ls (vI (i2bZ a) :: st) M
  | .i2l => pI st fun a st => K (pc + 1) ls (vL (Int64.ofInt a) :: st) M
  | .l2i => pL st fun a st => K (pc + 1) ls (vI (l2iZ a) :: st) M
  | .if_icmp q _ => (match ts with | [t] => pI st fun b st => pI st fun a st => (icp q a b → K t ls st M) ∧ (¬ icp q a b → K (pc + 3) ls st M) | _ => False)
  | .ifCond q _ => (match ts with | [t] => pI st fun a st => (icp q a 0 → K t ls st M) ∧ (¬ icp q a 0 → K (pc + 3) ls st M) | _ => False)
  | .ifnull _ => (match ts with | [t] => pN st (fun st => K t ls st M) (fun st => K (pc + 3) ls st M) | _ => False)
  | .ifnonnull _ => (match ts with | [t] => pN st (fun st => K (pc + 3) ls st M) (fun st => K t ls st M) | _ => False)
  | .goto _ => (match ts with | [t] => K t ls st M | _ => False)
  | .tableswitch _ lo hi _ => (match ts with | t :: ts => pI st fun a st => tsw a lo ts (fun t => K t ls st M) ∧ (a < lo ∨ hi < a → K t ls st M) | _ => False)
  | .lookupswitch _ ps => (match ts with | t :: ts => pI st fun a st => lsw a ps.toList ts (fun t => K t ls st M) ∧ ((∀ q ∈ ps.toList, ¬ a = q.1) → K t ls st M) | _ => False)
  | .getfield j => pR st fun a st => wgf (xfl c j) M.2.2.1 M.2.2.2.1 M.2.2.2.2.1 a fun v => K (pc + 3) ls (v :: st) M
  | .putfield j => wpf (xin c) (xfl c j) M.2.2.1 M.2.2.2.1 M.2.2.2.2.1 st fun ρ σ st => K (pc + 3) ls st (M.1, M.2.1, M.2.2.1, ρ, σ, M.2.2.2.2.2)
  | .getstatic j => xnc c j = 77 ∧ K (pc + 3) ls (vR (M.2.2.2.1 0 0) :: st) M
  | .iaload => pI st fun i st => pR st fun a st => ((M.2.2.1 a).1 = 1 ∨ (M.2.2.1 a).1 = 6) ∧ 0 ≤ i ∧ i < (M.2.2.1 a).2 ∧ K (pc + 1) ls (vI (M.2.2.2.2.1 a i) :: st) M
  | .baload => pI st fun i st => pR st fun a st => ((M.2.2.1 a).1 = 2 ∨ (M.2.2.1 a).1 = 3) ∧ 0 ≤ i ∧ i < (M.2.2.1 a).2 ∧ K (pc + 1) ls (vI (M.2.2.2.2.1 a i) :: st) M
  | .laload => pI st fun i st => pR st fun a st => (M.2.2.1 a).1 = 4 ∧ 0 ≤ i ∧ i < (M.2.2.1 a).2 ∧ K (pc + 1) ls (vL (M.2.2.2.2.2 a i) :: st) M
  | .aaload => pI st fun i st => pR st fun a st => (M.2.2.1 a).1 = 5 ∧ 0 ≤ i ∧ i < (M.2.2.1 a).2 ∧ ¬ M.2.2.2.1 a i = 0 ∧ K (pc + 1) ls (vR (M.2.2.2.1 a i) :: st) M
  | .iastore => pI st fun v st => pI st fun i st => pR st fun a st => (M.2.2.1 a).1 = 1 ∧ 0 ≤ i ∧ i < (M.2.2.1 a).2 ∧ K (pc + 1) ls st (M.1, M.2.1, M.2.2.1, M.2.2.2.1, fu M.2.2.2.2.1 a (iu (M.2.2.2.2.1 a) i v), M.2.2.2.2.2)
  | .bastore => pI st fun v st => pI st fun i st => pR st fun a st => (((M.2.2.1 a).1 = 2 ∧ -128 ≤ v ∧ v ≤ 127) ∨ ((M.2.2.1 a).1 = 3 ∧ (v = 0 ∨ v = 1))) ∧ 0 ≤ i ∧ i < (M.2.2.1 a).2 ∧ K (pc + 1) ls st (M.1, M.2.1, M.2.2.1, M.2.2.2.1, fu M.2.2.2.2.1 a (iu (M.2.2.2.2.1 a) i v), M.2.2.2.2.2)
  | .lastore => pL st fun v st => pI st fun i st => pR st fun a st => (M.2.2.1 a).1 = 4 ∧ 0 ≤ i ∧ i < (M.2.2.1 a).2 ∧ K (pc + 1) ls st (M.1, M.2.1, M.2.2.1, M.2.2.2.1, M.2.2.2.2.1, fu M.2.2.2.2.2 a (iu (M.2.2.2.2.2 a) i v))
  | .aastore => pR st fun v st => pI st fun i st => pR st fun a st => (M.2.2.1 a).1 = 5 ∧ 0 ≤ i ∧ i < (M.2.2.1 a).2 ∧ M.2.2.1 v = (13, 0) ∧ ¬ v = 0 ∧ K (pc + 1) ls st (M.1, M.2.1, M.2.2.1, fu M.2.2.2.1 a (iu (M.2.2.2.1 a) i v), M.2.2.2.2.1, M.2.2.2.2.2)
  | .arraylength => pR st fun a st => (1 ≤ (M.2.2.1 a).1 ∧ (M.2.2.1 a).1 ≤ 6) ∧ (M.2.2.1 a).2 ≤ 1000000 ∧ K (pc + 1) ls (vI (M.2.2.1 a).2 :: st) M
  | .new j => xnc c j < 12 ∧ wnew lim (10 + xnc c j) 0 (nfT.getD (xnc c j) 0) M fun a M => K (pc + 3) ls (vR a :: st) M
  | .newarray t => pI st fun n st => 0 ≤ n ∧ n ≤ 1000000 ∧ 1 ≤ akd t ∧ wnew lim (akd t) n n.toNat M fun a M => K (pc + 2) ls (vR a :: st) M
  | .anewarray j => pI st fun n st => 0 ≤ n ∧ n ≤ 1000000 ∧ xnc c j = 3 ∧ wnew lim 5 n n.toNat M fun a M => K (pc + 3) ls (vR a :: st) M
  | .invokevirtual j => callE (xE c (4 * j + 0)) (xd c) lim st M fun st M => K (pc + 3) ls st M
  | .invokespecial j => callE (xE c (4 * j + 1)) (xd c) lim st M fun st M => K (pc + 3) ls st M
  | .invokestatic j => callE (xE c (4 * j + 2)) (xd c) lim st M fun st M => K (pc + 3) ls st M
  | .ireturn => pI st fun v st => st = [] ∧ rbk (xrb c) v ∧ Q (some (vI v)) M
  | .lreturn => pL st fun v st => st = [] ∧ xrb c = 2 ∧ Q (some (vL v)) M
  | .areturn => pA st fun v st => st = [] ∧ xrb c = 4 ∧ Q (some v) M
  | .return_ => st = [] ∧ xrb c = 3 ∧ Q none M
  | _ => False
def oV (o : Option AV) (k : AV → Prop) : Prop := match o with
  | some v => k v
  | none => False
def pick : List Nat → Lc → (List AV → Prop) → Prop
  | [], _, k => k []
  | i :: is, ls, k => oV (lget ls i) fun v => pick is ls fun vs => k (v :: vs)
def wq (c : Cx) (lim : Nat × Nat) (Q : Option AV → Mm → Prop) (J : Nat → List AV → Mm → Prop) (K : Nat → Lc → List AV → Mm → Prop) (x : Option (List Nat) × Instr × List Nat) (pc : Nat) (ls : Lc) (st : List AV) (M : Mm) : Prop := match x with
  | (some is, _, _) => st = [] ∧ pick is ls fun vs => J pc vs M
  | (none, i, ts) => stepI c lim Q K i ts pc ls st M
def wp (c : Cx) (P : Nat → Option (List Nat) × Instr × List Nat) (lim : Nat × Nat) (Q : Option AV → Mm → Prop) (J : Nat → List AV → Mm → Prop) : Nat → Nat → Lc → List AV → Mm → Prop
  | 0 => fun _ _ _ _ => False
  | n + 1 => fun pc ls st M => wq c lim Q J (wp c P lim Q J n) (P pc) pc ls st M
/-- the first step, cut or not -/
def wps (c : Cx) (P : Nat → Option (List Nat) × Instr × List Nat) (lim : Nat × Nat) (Q : Option AV → Mm → Prop) (J : Nat → List AV → Mm → Prop) (n pc : Nat) (ls : Lc) (st : List AV) (M : Mm) : Prop := stepI c lim Q (wp c P lim Q J n) (P pc).2.1 (P pc).2.2 pc ls st M
section WPL
variable {c : Cx} {P : Nat → Option (List Nat) × Instr × List Nat} {lim : Nat × Nat} {Q : Option AV → Mm → Prop} {J : Nat → List AV → Mm → Prop} {K : Nat → Lc → List AV → Mm → Prop} {n pc : Nat} {ls : Lc} {st : List AV} {M : Mm} {ts : List Nat} {sz sl : Nat} {lay : Nat → Nat × Int} {ρ : Nat → Int → Nat} {σ : Nat → Int → Int} {τ : Nat → Int → Int64}  {i : Instr}
theorem wp_s : wp c P lim Q J (n + 1) pc ls st M = wq c lim Q J (wp c P lim Q J n) (P pc) pc ls st M := rfl
theorem wq_t {is : List Nat} : wq c lim Q J K (some is, i, ts) pc ls st M = (st = [] ∧ pick is ls fun vs => J pc vs M) := rfl
theorem wq_f : wq c lim Q J K (none, i, ts) pc ls st M = stepI c lim Q K i ts pc ls st M := rfl
theorem si_iload_n0 : stepI c lim Q K (.iload_n 0) ts pc ls (st) (sz, sl, lay, ρ, σ, τ) = (oI (lget ls 0) fun z => K (pc + 1) ls (vI z :: st) (sz, sl, lay, ρ, σ, τ)) := rfl
theorem si_iload_n1 : stepI c lim Q K (.iload_n 1) ts pc ls (st) (sz, sl, lay, ρ, σ, τ) = (oI (lget ls 1) fun z => K (pc + 1) ls (vI z :: st) (sz, sl, lay, ρ, σ, τ)) := rfl
theorem si_iload_n2 : stepI c lim Q K (.iload_n 2) ts pc ls (st) (sz, sl, lay, ρ, σ, τ) = (oI (lget ls 2) fun z => K (pc + 1) ls (vI z :: st) (sz, sl, lay, ρ, σ, τ)) := rfl
theorem si_iload_n3 : stepI c lim Q K (.iload_n 3) ts pc ls (st) (sz, sl, lay, ρ, σ, τ) = (oI (lget ls 3) fun z => K (pc + 1) ls (vI z :: st) (sz, sl, lay, ρ, σ, τ)) := rfl
theorem si_iload {k : Nat} : stepI c lim Q K (.iload k) ts pc ls (st) (sz, sl, lay, ρ, σ, τ) = (oI (lget ls k) fun z => K (pc + 2) ls (vI z :: st) (sz, sl, lay, ρ, σ, τ)) := rfl
theorem si_lload_n0 : stepI c lim Q K (.lload_n 0) ts pc ls (st) (sz, sl, lay, ρ, σ, τ) = (oL (lget ls 0) fun z => K (pc + 1) ls (vL z :: st) (sz, sl, lay, ρ, σ, τ)) := rfl
theorem si_lload_n1 : stepI c lim Q K (.lload_n 1) ts pc ls (st) (sz, sl, lay, ρ, σ, τ) = (oL (lget ls 1) fun z => K (pc + 1) ls (vL z :: st) (sz, sl, lay, ρ, σ, τ)) := rfl
theorem si_lload_n2 : stepI c lim Q K (.lload_n 2) ts pc ls (st) (sz, sl, lay, ρ, σ, τ) = (oL (lget ls 2) fun z => K (pc + 1) ls (vL z :: st) (sz, sl, lay, ρ, σ, τ)) := rfl
theorem si_lload_n3 : stepI c lim Q K (.lload_n 3) ts pc ls (st) (sz, sl, lay, ρ, σ, τ) = (oL (lget ls 3) fun z => K (pc + 1) ls (vL z :: st) (sz, sl, lay, ρ, σ, τ)) := rfl
theorem si_lload {k : Nat} : stepI c lim Q K (.lload k) ts pc ls (st) (sz, sl, lay, ρ, σ, τ) = (oL (lget ls k) fun z => K (pc + 2) ls (vL z :: st) (sz, sl, lay, ρ, σ, τ)) := rfl
theorem si_aload_n0 : stepI c lim Q K (.aload_n 0) ts pc ls (st) (sz, sl, lay, ρ, σ, τ) = (oA (lget ls 0) fun v => K (pc + 1) ls (v :: st) (sz, sl, lay, ρ, σ, τ)) := rfl
theorem si_aload_n1 : stepI c lim Q K (.aload_n 1) ts pc ls (st) (sz, sl, lay, ρ, σ, τ) = (oA (lget ls 1) fun v => K (pc + 1) ls (v :: st) (sz, sl, lay, ρ, σ, τ)) := rfl
theorem si_aload_n2 : stepI c lim Q K (.aload_n 2) ts pc ls (st) (sz, sl, lay, ρ, σ, τ) = (oA (lget ls 2) fun v => K (pc + 1) ls (v :: st) (sz, sl, lay, ρ, σ, τ)) := rfl
theorem si_aload_n3 : stepI c lim Q K (.aload_n 3) ts pc ls (st) (sz, sl, lay, ρ, σ, τ) = (oA (lget ls 3) fun v => K (pc + 1) ls (v :: st) (sz, sl, lay, ρ, σ, τ)) := rfl
theorem si_aload {k : Nat} : stepI c lim Q K (.aload k) ts pc ls (st) (sz, sl, lay, ρ, σ, τ) = (oA (lget ls k) fun v => K (pc + 2) ls (v :: st) (sz, sl, lay, ρ, σ, τ)) := rfl
theorem si_istore_n0 : stepI c lim Q K (.istore_n 0) ts pc ls (st) (sz, sl, lay, ρ, σ, τ) = (pI st fun z st => K (pc + 1) ((0, vI z) :: lrm1 0 ls) st (sz, sl, lay, ρ, σ, τ)) := rfl
theorem si_istore_n1 : stepI c lim Q K (.istore_n 1) ts pc ls (st) (sz, sl, lay, ρ, σ, τ) = (pI st fun z st => K (pc + 1) ((1, vI z) :: lrm1 1 ls) st (sz, sl, lay, ρ, σ, τ)) := rfl
theorem si_istore_n2 : stepI c lim Q K (.istore_n 2) ts pc ls (st) (sz, sl, lay, ρ, σ, τ) = (pI st fun z st => K (pc + 1) ((2, vI z) :: lrm1 2 ls) st (sz, sl, lay, ρ, σ, τ)) := rfl
theorem si_istore_n3 : stepI c lim Q K (.istore_n 3) ts pc ls (st) (sz, sl, lay, ρ, σ, τ) = (pI st fun z st => K (pc + 1) ((3, vI z) :: lrm1 3 ls) st (sz, sl, lay, ρ, σ, τ)) := rfl
theorem si_istore {k : Nat} : stepI c lim Q K (.istore k) ts pc ls (st) (sz, sl, lay, ρ, σ, τ) = (pI st fun z st => K (pc + 2) ((k, vI z) :: lrm1 k ls) st (sz, sl, lay, ρ, σ, τ)) := rfl
theorem si_astore_n0 : stepI c lim Q K (.astore_n 0) ts pc ls (st) (sz, sl, lay, ρ, σ, τ) = (pA st fun v st => K (pc + 1) ((0, v) :: lrm1 0 ls) st (sz, sl, lay, ρ, σ, τ)) := rfl
theorem si_astore_n1 : stepI c lim Q K (.astore_n 1) ts pc ls (st) (sz, sl, lay, ρ, σ, τ) = (pA st fun v st => K (pc + 1) ((1, v) :: lrm1 1 ls) st (sz, sl, lay, ρ, σ, τ)) := rfl
theorem si_astore_n2 : stepI c lim Q K (.astore_n 2) ts pc ls (st) (sz, sl, lay, ρ, σ, τ) = (pA st fun v st => K (pc + 1) ((2, v) :: lrm1 2 ls) st (sz, sl, lay, ρ, σ, τ)) := rfl
theorem si_astore_n3 : stepI c lim Q K (.astore_n 3) ts pc ls (st) (sz, sl, lay, ρ, σ, τ) = (pA st fun v st => K (pc + 1) ((3, v) :: lrm1 3 ls) st (sz, sl, lay, ρ, σ, τ)) := rfl
theorem si_astore {k : Nat} : stepI c lim Q K (.astore k) ts pc ls (st) (sz, sl, lay, ρ, σ, τ) = (pA st fun v st => K (pc + 2) ((k, v) :: lrm1 k ls) st (sz, sl, lay, ρ, σ, τ)) := rfl
theorem si_lstore_n0 : stepI c lim Q K (.lstore_n 0) ts pc ls (st) (sz, sl, lay, ρ, σ, τ) = (pL st fun z st => K (pc + 1) ((0, vL z) :: lrm2 0 ls) st (sz, sl, lay, ρ, σ, τ)) := rfl
theorem si_lstore_n1 : stepI c lim Q K (.lstore_n 1) ts pc ls (st) (sz, sl, lay, ρ, σ, τ) = (pL st fun z st => K (pc + 1) ((1, vL z) :: lrm2 1 ls) st (sz, sl, lay, ρ, σ, τ)) := rfl
theorem si_lstore_n2 : stepI c lim Q K (.lstore_n 2) ts pc ls (st) (sz, sl, lay, ρ, σ, τ) = (pL st fun z st => K (pc + 1) ((2, vL z) :: lrm2 2 ls) st (sz, sl, lay, ρ, σ, τ)) := rfl
theorem si_lstore_n3 : stepI c lim Q K (.lstore_n 3) ts pc ls (st) (sz, sl, lay, ρ, σ, τ) = (pL st fun z st => K (pc + 1) ((3, vL z) :: lrm2 3 ls) st (sz, sl, lay, ρ, σ, τ)) := rfl
theorem si_lstore {k : Nat} : stepI c lim Q K (.lstore k) ts pc ls (st) (sz, sl, lay, ρ, σ, τ) = (pL st fun z st => K (pc + 2) ((k, vL z) :: lrm2 k ls) st (sz, sl, lay, ρ, σ, τ)) := rfl
theorem si_iconst {n : Int} : stepI c lim Q K (.iconst n) ts pc ls (st) (sz, sl, lay, ρ, σ, τ) = (inR n ∧ K (pc + 1) ls (vI n :: st) (sz, sl, lay, ρ, σ, τ)) := rfl
theorem si_bipush {n : Int} : stepI c lim Q K (.bipush n) ts pc ls (st) (sz, sl, lay, ρ, σ, τ) = ((-128 ≤ n ∧ n ≤ 127) ∧ K (pc + 2) ls (vI n :: st) (sz, sl, lay, ρ, σ, τ)) := rfl
theorem si_sipush {n : Int} : stepI c lim Q K (.sipush n) ts pc ls (st) (sz, sl, lay, ρ, σ, τ) = ((-32768 ≤ n ∧ n ≤ 32767) ∧ K (pc + 3) ls (vI n :: st) (sz, sl, lay, ρ, σ, τ)) := rfl
theorem si_ldc {j : Nat} : stepI c lim Q K (.ldc j) ts pc ls (st) (sz, sl, lay, ρ, σ, τ) = (oZ (xkc c j) fun z => inR z ∧ K (pc + 2) ls (vI z :: st) (sz, sl, lay, ρ, σ, τ)) := rfl
theorem si_ldc2_w {j : Nat} : stepI c lim Q K (.ldc2_w j) ts pc ls (st) (sz, sl, lay, ρ, σ, τ) = (oY (xkl c j) fun z => K (pc + 3) ls (vL z :: st) (sz, sl, lay, ρ, σ, τ)) := rfl
theorem si_lconst0 : stepI c lim Q K (.lconst 0) ts pc ls (st) (sz, sl, lay, ρ, σ, τ) = (K (pc + 1) ls (vL (0) :: st) (sz, sl, lay, ρ, σ, τ)) := rfl
theorem si_lconst1 : stepI c lim Q K (.lconst 1) ts pc ls (st) (sz, sl, lay, ρ, σ, τ) = (K (pc + 1) ls (vL (1) :: st) (sz, sl, lay, ρ, σ, τ)) := rfl
theorem si_aconst_null : stepI c lim Q K (.aconst_null) ts pc ls (st) (sz, sl, lay, ρ, σ, τ) = (K (pc + 1) ls (vN :: st) (sz, sl, lay, ρ, σ, τ)) := rfl
theorem si_iinc {k : Nat} {n : Int} : stepI c lim Q K (.iinc k n) ts pc ls (st) (sz, sl, lay, ρ, σ, τ) = (oI (lget ls k) fun z => inR n ∧ inR (z + n) ∧ K (pc + 3) ((k, vI (z + n)) :: lrm1 k ls) st (sz, sl, lay, ρ, σ, τ)) := rfl
theorem si_dup {v : AV} : stepI c lim Q K (.dup) ts pc ls (v :: st) (sz, sl, lay, ρ, σ, τ) = (acat v = 1 ∧ K (pc + 1) ls (v :: v :: st) (sz, sl, lay, ρ, σ, τ)) := rfl
theorem si_dup2 {v w : AV} : stepI c lim Q K (.dup2) ts pc ls (v :: w :: st) (sz, sl, lay, ρ, σ, τ) = (acat v = 1 ∧ acat w = 1 ∧ K (pc + 1) ls (v :: w :: v :: w :: st) (sz, sl, lay, ρ, σ, τ)) := rfl
theorem si_iadd : stepI c lim Q K (.iadd) ts pc ls (st) (sz, sl, lay, ρ, σ, τ) = (pI st fun b st => pI st fun a st => inR (a + b) ∧ K (pc + 1) ls (vI (a + b) :: st) (sz, sl, lay, ρ, σ, τ)) := rfl
theorem si_isub : stepI c lim Q K (.isub) ts pc ls (st) (sz, sl, lay, ρ, σ, τ) = (pI st fun b st => pI st fun a st => inR (a - b) ∧ K (pc + 1) ls (vI (a - b) :: st) (sz, sl, lay, ρ, σ, τ)) := rfl
theorem si_imul : stepI c lim Q K (.imul) ts pc ls (st) (sz, sl, lay, ρ, σ, τ) = (pI st fun b st => pI st fun a st => inR (a * b) ∧ K (pc + 1) ls (vI (a * b) :: st) (sz, sl, lay, ρ, σ, τ)) := rfl
theorem si_idiv : stepI c lim Q K (.idiv) ts pc ls (st) (sz, sl, lay, ρ, σ, τ) = (pI st fun b st => pI st fun a st => 0 ≤ a ∧ 0 < b ∧ K (pc + 1) ls (vI (a / b) :: st) (sz, sl, lay, ρ, σ, τ)) := rfl
theorem si_irem : stepI c lim Q K (.irem) ts pc ls (st) (sz, sl, lay, ρ, σ, τ) = (pI st fun b st => pI st fun a st => 0 ≤ a ∧ 0 < b ∧ K (pc + 1) ls (vI (a % b) :: st) (sz, sl, lay, ρ, σ, τ)) := rfl
theorem si_iand : stepI c lim Q K (.iand) ts pc ls (st) (sz, sl, lay, ρ, σ, τ) = (pI st fun b st => pI st fun a st => K (pc + 1) ls (vI (andZ a b) :: st) (sz, sl, lay, ρ, σ, τ)) := rfl
theorem si_ior : stepI c lim Q K (.ior) ts pc ls (st) (sz, sl, lay, ρ, σ, τ) = (pI st fun b st => pI st fun a st => K (pc + 1) ls (vI (orZ a b) :: st) (sz, sl, lay, ρ, σ, τ)) := rfl
theorem si_ishl : stepI c lim Q K (.ishl) ts pc ls (st) (sz, sl, lay, ρ, σ, τ) = (pI st fun b st => pI st fun a st => K (pc + 1) ls (vI (shlZ a b) :: st) (sz, sl, lay, ρ, σ, τ)) := rfl
theorem si_ishr : stepI c lim Q K (.ishr) ts pc ls (st) (sz, sl, lay, ρ, σ, τ) = (pI st fun b st => pI st fun a st => K (pc + 1) ls (vI (shrZ a b) :: st) (sz, sl, lay, ρ, σ, τ)) := rfl
theorem si_ladd : stepI c lim Q K (.ladd) ts pc ls (st) (sz, sl, lay, ρ, σ, τ) = (pL st fun b st => pL st fun a st => K (pc + 1) ls (vL (a + b) :: st) (sz, sl, lay, ρ, σ, τ)) := rfl
theorem si_lmul : stepI c lim Q K (.lmul) ts pc ls (st) (sz, sl, lay, ρ, σ, τ) = (pL st fun b st => pL st fun a st => K (pc + 1) ls (vL (a * b) :: st) (sz, sl, lay, ρ, σ, τ)) := rfl
theorem si_lor : stepI c lim Q K (.lor) ts pc ls (st) (sz, sl, lay, ρ, σ, τ) = (pL st fun b st => pL st fun a st => K (pc + 1) ls (vL (a ||| b) :: st) (sz, sl, lay, ρ, σ, τ)) := rfl
theorem si_lxor : stepI c lim Q K (.lxor) ts pc ls (st) (sz, sl, lay, ρ, σ, τ) = (pL st fun b st => pL st fun a st => K (pc + 1) ls (vL (a ^^^ b) :: st) (sz, sl, lay, ρ, σ, τ)) := rfl
theorem si_lshl : stepI c lim Q K (.lshl) ts pc ls (st) (sz, sl, lay, ρ, σ, τ) = (pI st fun b st => pL st fun a st => K (pc + 1) ls (vL (shlL a b) :: st) (sz, sl, lay, ρ, σ, τ)) := rfl
theorem si_lushr : stepI c lim Q K (.lushr) ts pc ls (st) (sz, sl, lay, ρ, σ, τ) = (pI st fun b st => pL st fun a st => K (pc + 1) ls (vL (ushrL a b) :: st) (sz, sl, lay, ρ, σ, τ)) := rfl
theorem si_lcmp : stepI c lim Q K (.lcmp) ts pc ls (st) (sz, sl, lay, ρ, σ, τ) = (pL st fun b st => pL st fun a st => K (pc + 1) ls (vI (cmpL a b) :: st) (sz, sl, lay, ρ, σ, τ)) := rfl
theorem si_i2b : stepI c lim Q K (.i2b) ts pc ls (st) (sz, sl, lay, ρ, σ, τ) = (pI st fun a st => K (pc + 1) ls (vI (i2bZ a) :: st) (sz, sl, lay, ρ, σ, τ)) := rfl
theorem si_i2l : stepI c lim Q K (.i2l) ts pc ls (st) (sz, sl, lay, ρ, σ, τ) = (pI st fun a st => K (pc + 1) ls (vL (Int64.ofInt a) :: st) (sz, sl, lay, ρ, σ, τ)) := rfl
theorem si_l2i : stepI c lim Q K (.l2i) ts pc ls (st) (sz, sl, lay, ρ, σ, τ) = (pL st fun a st => K (pc + 1) ls (vI (l2iZ a) :: st) (sz, sl, lay, ρ, σ, τ)) := rfl
theorem si_icmp_eq {off : Int} {t : Nat} : stepI c lim Q K (.if_icmp .eq off) [t] pc ls st (sz, sl, lay, ρ, σ, τ) = (pI st fun b st => pI st fun a st => (a = b → K t ls st (sz, sl, lay, ρ, σ, τ)) ∧ (¬ a = b → K (pc + 3) ls st (sz, sl, lay, ρ, σ, τ))) := rfl
theorem si_icmp_ne {off : Int} {t : Nat} : stepI c lim Q K (.if_icmp .ne off) [t] pc ls st (sz, sl, lay, ρ, σ, τ) = (pI st fun b st => pI st fun a st => (¬ a = b → K t ls st (sz, sl, lay, ρ, σ, τ)) ∧ (¬ ¬ a = b → K (pc + 3) ls st (sz, sl, lay, ρ, σ, τ))) := rfl
theorem si_icmp_lt {off : Int} {t : Nat} : stepI c lim Q K (.if_icmp .lt off) [t] pc ls st (sz, sl, lay, ρ, σ, τ) = (pI st fun b st => pI st fun a st => (a < b → K t ls st (sz, sl, lay, ρ, σ, τ)) ∧ (¬ a < b → K (pc + 3) ls st (sz, sl, lay, ρ, σ, τ))) := rfl
theorem si_icmp_ge {off : Int} {t : Nat} : stepI c lim Q K (.if_icmp .ge off) [t] pc ls st (sz, sl, lay, ρ, σ, τ) = (pI st fun b st => pI st fun a st => (b ≤ a → K t ls st (sz, sl, lay, ρ, σ, τ)) ∧ (¬ b ≤ a → K (pc + 3) ls st (sz, sl, lay, ρ, σ, τ))) := rfl
theorem si_icmp_gt {off : Int} {t : Nat} : stepI c lim Q K (.if_icmp .gt off) [t] pc ls st (sz, sl, lay, ρ, σ, τ) = (pI st fun b st => pI st fun a st => (b < a → K t ls st (sz, sl, lay, ρ, σ, τ)) ∧ (¬ b < a → K (pc + 3) ls st (sz, sl, lay, ρ, σ, τ))) := rfl
theorem si_icmp_le {off : Int} {t : Nat} : stepI c lim Q K (.if_icmp .le off) [t] pc ls st (sz, sl, lay, ρ, σ, τ) = (pI st fun b st => pI st fun a st => (a ≤ b → K t ls st (sz, sl, lay, ρ, σ, τ)) ∧ (¬ a ≤ b → K (pc + 3) ls st (sz, sl, lay, ρ, σ, τ))) := rfl
theorem si_if_eq {off : Int} {t : Nat} : stepI c lim Q K (.ifCond .eq off) [t] pc ls st (sz, sl, lay, ρ, σ, τ) = (pI st fun a st => (a = 0 → K t ls st (sz, sl, lay, ρ, σ, τ)) ∧ (¬ a = 0 → K (pc + 3) ls st (sz, sl, lay, ρ, σ, τ))) := rfl
theorem si_if_ne {off : Int} {t : Nat} : stepI c lim Q K (.ifCond .ne off) [t] pc ls st (sz, sl, lay, ρ, σ, τ) = (pI st fun a st => (¬ a = 0 → K t ls st (sz, sl, lay, ρ, σ, τ)) ∧ (¬ ¬ a = 0 → K (pc + 3) ls st (sz, sl, lay, ρ, σ, τ))) := rfl
theorem si_if_lt {off : Int} {t : Nat} : stepI c lim Q K (.ifCond .lt off) [t] pc ls st (sz, sl, lay, ρ, σ, τ) = (pI st fun a st => (a < 0 → K t ls st (sz, sl, lay, ρ, σ, τ)) ∧ (¬ a < 0 → K (pc + 3) ls st (sz, sl, lay, ρ, σ, τ))) := rfl
theorem si_if_ge {off : Int} {t : Nat} : stepI c lim Q K (.ifCond .ge off) [t] pc ls st (sz, sl, lay, ρ, σ, τ) = (pI st fun a st => (0 ≤ a → K t ls st (sz, sl, lay, ρ, σ, τ)) ∧ (¬ 0 ≤ a → K (pc + 3) ls st (sz, sl, lay, ρ, σ, τ))) := rfl
theorem si_if_gt {off : Int} {t : Nat} : stepI c lim Q K (.ifCond .gt off) [t] pc ls st (sz, sl, lay, ρ, σ, τ) = (pI st fun a st => (0 < a → K t ls st (sz, sl, lay, ρ, σ, τ)) ∧ (¬ 0 < a → K (pc + 3) ls st (sz, sl, lay, ρ, σ, τ))) := rfl
theorem si_if_le {off : Int} {t : Nat} : stepI c lim Q K (.ifCond .le off) [t] pc ls st (sz, sl, lay, ρ, σ, τ) = (pI st fun a st => (a ≤ 0 → K t ls st (sz, sl, lay, ρ, σ, τ)) ∧ (¬ a ≤ 0 → K (pc + 3) ls st (sz, sl, lay, ρ, σ, τ))) := rfl
theorem si_ifnull {t : Nat} {w0 : Int} : stepI c lim Q K (.ifnull w0) ([t]) pc ls (st) (sz, sl, lay, ρ, σ, τ) = (pN st (fun st => K t ls st (sz, sl, lay, ρ, σ, τ)) (fun st => K (pc + 3) ls st (sz, sl, lay, ρ, σ, τ))) := rfl
theorem si_ifnonnull {t : Nat} {w0 : Int} : stepI c lim Q K (.ifnonnull w0) ([t]) pc ls (st) (sz, sl, lay, ρ, σ, τ) = (pN st (fun st => K (pc + 3) ls st (sz, sl, lay, ρ, σ, τ)) (fun st => K t ls st (sz, sl, lay, ρ, σ, τ))) := rfl
theorem si_goto {t : Nat} {w0 : Int} : stepI c lim Q K (.goto w0) ([t]) pc ls (st) (sz, sl, lay, ρ, σ, τ) = (K t ls st (sz, sl, lay, ρ, σ, τ)) := rfl
theorem si_tableswitch {t : Nat} {w0 lo hi : Int} {w1 : Array Int} : stepI c lim Q K (.tableswitch w0 lo hi w1) (t :: ts) pc ls (st) (sz, sl, lay, ρ, σ, τ) = (pI st fun a st => tsw a lo ts (fun t => K t ls st (sz, sl, lay, ρ, σ, τ)) ∧ (a < lo ∨ hi < a → K t ls st (sz, sl, lay, ρ, σ, τ))) := rfl
theorem si_lookupswitch {t : Nat} {w0 : Int} {ps : Array (Int × Int)} : stepI c lim Q K (.lookupswitch w0 ps) (t :: ts) pc ls (st) (sz, sl, lay, ρ, σ, τ) = (pI st fun a st => lsw a ps.toList ts (fun t => K t ls st (sz, sl, lay, ρ, σ, τ)) ∧ ((∀ q ∈ ps.toList, ¬ a = q.1) → K t ls st (sz, sl, lay, ρ, σ, τ))) := rfl
theorem si_getfield {j : Nat} : stepI c lim Q K (.getfield j) ts pc ls (st) (sz, sl, lay, ρ, σ, τ) = (pR st fun a st => wgf (xfl c j) lay ρ σ a fun v => K (pc + 3) ls (v :: st) (sz, sl, lay, ρ, σ, τ)) := rfl
theorem si_putfield {j : Nat} : stepI c lim Q K (.putfield j) ts pc ls (st) (sz, sl, lay, ρ, σ, τ) = (wpf (xin c) (xfl c j) lay ρ σ st fun ρ σ st => K (pc + 3) ls st (sz, sl, lay, ρ, σ, τ)) := rfl
theorem si_getstatic {j : Nat} : stepI c lim Q K (.getstatic j) ts pc ls (st) (sz, sl, lay, ρ, σ, τ) = (xnc c j = 77 ∧ K (pc + 3) ls (vR (ρ 0 0) :: st) (sz, sl, lay, ρ, σ, τ)) := rfl
theorem si_iaload : stepI c lim Q K (.iaload) ts pc ls (st) (sz, sl, lay, ρ, σ, τ) = (pI st fun i st => pR st fun a st => ((lay a).1 = 1 ∨ (lay a).1 = 6) ∧ 0 ≤ i ∧ i < (lay a).2 ∧ K (pc + 1) ls (vI (σ a i) :: st) (sz, sl, lay, ρ, σ, τ)) := rfl
theorem si_baload : stepI c lim Q K (.baload) ts pc ls (st) (sz, sl, lay, ρ, σ, τ) = (pI st fun i st => pR st fun a st => ((lay a).1 = 2 ∨ (lay a).1 = 3) ∧ 0 ≤ i ∧ i < (lay a).2 ∧ K (pc + 1) ls (vI (σ a i) :: st) (sz, sl, lay, ρ, σ, τ)) := rfl
theorem si_laload : stepI c lim Q K (.laload) ts pc ls (st) (sz, sl, lay, ρ, σ, τ) = (pI st fun i st => pR st fun a st => (lay a).1 = 4 ∧ 0 ≤ i ∧ i < (lay a).2 ∧ K (pc + 1) ls (vL (τ a i) :: st) (sz, sl, lay, ρ, σ, τ)) := rfl
theorem si_aaload : stepI c lim Q K (.aaload) ts pc ls (st) (sz, sl, lay, ρ, σ, τ) = (pI st fun i st => pR st fun a st => (lay a).1 = 5 ∧ 0 ≤ i ∧ i < (lay a).2 ∧ ¬ ρ a i = 0 ∧ K (pc + 1) ls (vR (ρ a i) :: st) (sz, sl, lay, ρ, σ, τ)) := rfl
theorem si_iastore : stepI c lim Q K (.iastore) ts pc ls (st) (sz, sl, lay, ρ, σ, τ) = (pI st fun v st => pI st fun i st => pR st fun a st => (lay a).1 = 1 ∧ 0 ≤ i ∧ i < (lay a).2 ∧ K (pc + 1) ls st (sz, sl, lay, ρ, fu σ a (iu (σ a) i v), τ)) := rfl
theorem si_bastore : stepI c lim Q K (.bastore) ts pc ls (st) (sz, sl, lay, ρ, σ, τ) = (pI st fun v st => pI st fun i st => pR st fun a st => (((lay a).1 = 2 ∧ -128 ≤ v ∧ v ≤ 127) ∨ ((lay a).1 = 3 ∧ (v = 0 ∨ v = 1))) ∧ 0 ≤ i ∧ i < (lay a).2 ∧ K (pc + 1) ls st (sz, sl, lay, ρ, fu σ a (iu (σ a) i v), τ)) := rfl
theorem si_lastore : stepI c lim Q K (.lastore) ts pc ls (st) (sz, sl, lay, ρ, σ, τ) = (pL st fun v st => pI st fun i st => pR st fun a st => (lay a).1 = 4 ∧ 0 ≤ i ∧ i < (lay a).2 ∧ K (pc + 1) ls st (sz, sl, lay, ρ, σ, fu τ a (iu (τ a) i v))) := rfl
theorem si_aastore : stepI c lim Q K (.aastore) ts pc ls (st) (sz, sl, lay, ρ, σ, τ) = (pR st fun v st => pI st fun i st => pR st fun a st => (lay a).1 = 5 ∧ 0 ≤ i ∧ i < (lay a).2 ∧ lay v = (13, 0) ∧ ¬ v = 0 ∧ K (pc + 1) ls st (sz, sl, lay, fu ρ a (iu (ρ a) i v), σ, τ)) := rfl
theorem si_arraylength : stepI c lim Q K (.arraylength) ts pc ls (st) (sz, sl, lay, ρ, σ, τ) = (pR st fun a st => (1 ≤ (lay a).1 ∧ (lay a).1 ≤ 6) ∧ (lay a).2 ≤ 1000000 ∧ K (pc + 1) ls (vI (lay a).2 :: st) (sz, sl, lay, ρ, σ, τ)) := rfl
theorem si_new {j : Nat} : stepI c lim Q K (.new j) ts pc ls (st) (sz, sl, lay, ρ, σ, τ) = (xnc c j < 12 ∧ wnew lim (10 + xnc c j) 0 (nfT.getD (xnc c j) 0) (sz, sl, lay, ρ, σ, τ) fun a M => K (pc + 3) ls (vR a :: st) M) := rfl
theorem si_newarray {t : ArrayType} : stepI c lim Q K (.newarray t) ts pc ls (st) (sz, sl, lay, ρ, σ, τ) = (pI st fun n st => 0 ≤ n ∧ n ≤ 1000000 ∧ 1 ≤ akd t ∧ wnew lim (akd t) n n.toNat (sz, sl, lay, ρ, σ, τ) fun a M => K (pc + 2) ls (vR a :: st) M) := rfl
theorem si_anewarray {j : Nat} : stepI c lim Q K (.anewarray j) ts pc ls (st) (sz, sl, lay, ρ, σ, τ) = (pI st fun n st => 0 ≤ n ∧ n ≤ 1000000 ∧ xnc c j = 3 ∧ wnew lim 5 n n.toNat (sz, sl, lay, ρ, σ, τ) fun a M => K (pc + 3) ls (vR a :: st) M) := rfl
theorem si_invokevirtual {j : Nat} : stepI c lim Q K (.invokevirtual j) ts pc ls (st) (sz, sl, lay, ρ, σ, τ) = (callE (xE c (4 * j + 0)) (xd c) lim st (sz, sl, lay, ρ, σ, τ) fun st M => K (pc + 3) ls st M) := rfl
theorem si_invokespecial {j : Nat} : stepI c lim Q K (.invokespecial j) ts pc ls (st) (sz, sl, lay, ρ, σ, τ) = (callE (xE c (4 * j + 1)) (xd c) lim st (sz, sl, lay, ρ, σ, τ) fun st M => K (pc + 3) ls st M) := rfl
theorem si_invokestatic {j : Nat} : stepI c lim Q K (.invokestatic j) ts pc ls (st) (sz, sl, lay, ρ, σ, τ) = (callE (xE c (4 * j + 2)) (xd c) lim st (sz, sl, lay, ρ, σ, τ) fun st M => K (pc + 3) ls st M) := rfl
theorem si_ireturn : stepI c lim Q K (.ireturn) ts pc ls (st) (sz, sl, lay, ρ, σ, τ) = (pI st fun v st => st = [] ∧ rbk (xrb c) v ∧ Q (some (vI v)) (sz, sl, lay, ρ, σ, τ)) := rfl
theorem si_lreturn : stepI c lim Q K (.lreturn) ts pc ls (st) (sz, sl, lay, ρ, σ, τ) = (pL st fun v st => st = [] ∧ xrb c = 2 ∧ Q (some (vL v)) (sz, sl, lay, ρ, σ, τ)) := rfl
theorem si_areturn : stepI c lim Q K (.areturn) ts pc ls (st) (sz, sl, lay, ρ, σ, τ) = (pA st fun v st => st = [] ∧ xrb c = 4 ∧ Q (some v) (sz, sl, lay, ρ, σ, τ)) := rfl
theorem si_return_ : stepI c lim Q K (.return_) ts pc ls (st) (sz, sl, lay, ρ, σ, τ) = (st = [] ∧ xrb c = 3 ∧ Q none (sz, sl, lay, ρ, σ, τ)) := rfl
theorem oV_e {v : AV} {k : AV → Prop} : oV (some v) k = k v := rfl
theorem pick_0 {k : List AV → Prop} : pick [] ls k = k [] := rfl
theorem pick_s {j : Nat} {is : List Nat} {k : List AV → Prop} : pick (j :: is) ls k = (oV (lget ls j) fun v => pick is ls fun vs => k (v :: vs)) := rfl
theorem pI_e {z : Int} {k : Int → List AV → Prop} : pI (vI z :: st) k = k z st := rfl
theorem pL_e {z : Int64} {k : Int64 → List AV → Prop} : pL (vL z :: st) k = k z st := rfl
theorem pR_e {z : Nat} {k : Nat → List AV → Prop} : pR (vR z :: st) k = k z st := rfl
theorem pA_r {z : Nat} {k : AV → List AV → Prop} : pA (vR z :: st) k = k (vR z) st := rfl
theorem pA_n {k : AV → List AV → Prop} : pA (vN :: st) k = k vN st := rfl
theorem pN_n {k0 k1 : List AV → Prop} : pN (vN :: st) k0 k1 = k0 st := rfl
theorem pN_r {z : Nat} {k0 k1 : List AV → Prop} : pN (vR z :: st) k0 k1 = k1 st := rfl
theorem oZ_e {z : Int} {k : Int → Prop} : oZ (some z) k = k z := rfl
theorem oY_e {z : Int64} {k : Int64 → Prop} : oY (some z) k = k z := rfl
theorem oI_e {z : Int} {k : Int → Prop} : oI (some (vI z)) k = k z := rfl
theorem oL_e {z : Int64} {k : Int64 → Prop} : oL (some (vL z)) k = k z := rfl
theorem oA_r {z : Nat} {k : AV → Prop} : oA (some (vR z)) k = k (vR z) := rfl
theorem oA_n {k : AV → Prop} : oA (some vN) k = k vN := rfl
theorem lget_e {j k : Nat} {v : AV} : lget ((j, v) :: ls) k = if j = k then some v else lget ls k := rfl
theorem lrm1_0 {k : Nat} : lrm1 k [] = [] := rfl
theorem lrm2_0 {k : Nat} : lrm2 k [] = [] := rfl
theorem lrm1_i {j k : Nat} {z : Int} : lrm1 k ((j, vI z) :: ls) = if j = k then lrm1 k ls else (j, vI z) :: lrm1 k ls := by simp [lrm1, vI, acat]
theorem lrm1_r {j k : Nat} {z : Nat} : lrm1 k ((j, vR z) :: ls) = if j = k then lrm1 k ls else (j, vR z) :: lrm1 k ls := by simp [lrm1, vR, acat]
theorem lrm1_n {j k : Nat} : lrm1 k ((j, vN) :: ls) = if j = k then lrm1 k ls else (j, vN) :: lrm1 k ls := by simp [lrm1, vN, acat]
theorem lrm1_l {j k : Nat} {z : Int64} : lrm1 k ((j, vL z) :: ls) = if j = k ∨ j + 1 = k then lrm1 k ls else (j, vL z) :: lrm1 k ls := by simp [lrm1, vL, acat]
theorem lrm2_i {j k : Nat} {z : Int} : lrm2 k ((j, vI z) :: ls) = if j = k ∨ j = k + 1 then lrm2 k ls else (j, vI z) :: lrm2 k ls := by simp [lrm2, vI, acat]
theorem lrm2_r {j k : Nat} {z : Nat} : lrm2 k ((j, vR z) :: ls) = if j = k ∨ j = k + 1 then lrm2 k ls else (j, vR z) :: lrm2 k ls := by simp [lrm2, vR, acat]
theorem lrm2_n {j k : Nat} : lrm2 k ((j, vN) :: ls) = if j = k ∨ j = k + 1 then lrm2 k ls else (j, vN) :: lrm2 k ls := by simp [lrm2, vN, acat]
theorem lrm2_l {j k : Nat} {z : Int64} : lrm2 k ((j, vL z) :: ls) = if j = k ∨ j = k + 1 ∨ j + 1 = k then lrm2 k ls else (j, vL z) :: lrm2 k ls := by simp [lrm2, vL, acat]
theorem popN_0 {as : List AV} {k : List AV → List AV → Prop} : popN 0 st as k = k as st := rfl
theorem popN_s {m : Nat} {v : AV} {as : List AV} {k : List AV → List AV → Prop} : popN (m + 1) (v :: st) as k = popN m st (v :: as) k := rfl
theorem acat_i {z : Int} : acat (vI z) = 1 := rfl
theorem acat_l {z : Int64} : acat (vL z) = 2 := rfl
theorem acat_r {z : Nat} : acat (vR z) = 1 := rfl
theorem acat_n : acat vN = 1 := rfl
theorem stw_0 : stw [] = 0 := rfl
theorem stw_s {v : AV} : stw (v :: st) = acat v + stw st := rfl
theorem psh_s {v : AV} : psh (some v) st = v :: st := rfl
theorem psh_n : psh none st = st := rfl
theorem wgf_r {ci a : Nat} {j : Int} {k : AV → Prop} : wgf (ci, j, 1) lay ρ σ a k = (lay a = (10 + ci, 0) ∧ ¬ ρ a j = 0 ∧ k (vR (ρ a j))) := rfl
theorem wgf_i {ci a : Nat} {j : Int} {k : AV → Prop} : wgf (ci, j, 0) lay ρ σ a k = (lay a = (10 + ci, 0) ∧ k (vI (σ a j))) := rfl
theorem wgf_b {ci a : Nat} {j : Int} {k : AV → Prop} : wgf (ci, j, 2) lay ρ σ a k = (lay a = (10 + ci, 0) ∧ k (vI (σ a j))) := rfl
theorem wgf_n {ci a : Nat} {j : Int} {k : AV → Prop} : wgf (ci, j, 3) lay ρ σ a k = (lay a = (10 + ci, 0) ∧ ¬ ρ a j = 0 ∧ k (vR (ρ a j))) := rfl
theorem wgf_m {ci a : Nat} {j : Int} {k : AV → Prop} : wgf (ci, j, 4) lay ρ σ a k = (lay a = (10 + ci, 0) ∧ k (vI (σ a j))) := rfl
theorem wpf_i {ini : Bool} {ci : Nat} {j : Int} {k : (Nat → Int → Nat) → (Nat → Int → Int) → List AV → Prop} : wpf ini (ci, j, 0) lay ρ σ st k = (pI st fun v st => pR st fun a st => lay a = (10 + ci, 0) ∧ k ρ (fu σ a (iu (σ a) j v)) st) := rfl
theorem wpf_r {ini : Bool} {ci : Nat} {j : Int} {k : (Nat → Int → Nat) → (Nat → Int → Int) → List AV → Prop} : wpf ini (ci, j, 1) lay ρ σ st k = (ini = true ∧ pR st fun b st => pR st fun a st => lay a = (10 + ci, 0) ∧ ¬ b = 0 ∧ k (fu ρ a (iu (ρ a) j b)) σ st) := rfl
theorem wpf_b {ini : Bool} {ci : Nat} {j : Int} {k : (Nat → Int → Nat) → (Nat → Int → Int) → List AV → Prop} : wpf ini (ci, j, 2) lay ρ σ st k = (pI st fun v st => pR st fun a st => lay a = (10 + ci, 0) ∧ (v = 0 ∨ v = 1) ∧ k ρ (fu σ a (iu (σ a) j v)) st) := rfl
theorem wnew_e {kd w : Nat} {m : Int} {k : Nat → Mm → Prop} : wnew lim kd m w (sz, sl, lay, ρ, σ, τ) k = (sz + 1 ≤ lim.1 ∧ sl + w ≤ lim.2 ∧ k sz (sz + 1, sl + w, fu lay sz (kd, m), fu ρ sz (fun _ => 0), fu σ sz (fun _ => 0), fu τ sz (fun _ => 0))) := rfl
theorem callE_e {na dc mc ms d : Nat} {T : Tr} {k : List AV → Mm → Prop} : callE (na, dc, mc, ms, T) d lim st (sz, sl, lay, ρ, σ, τ) k = (popN na st [] fun as st => dc < d ∧ stw st ≤ 8 ∧ sz + mc ≤ lim.1 ∧ sl + ms ≤ lim.2 ∧ T as (sz, sl, lay, ρ, σ, τ) fun r M' => k (psh r st) M') := rfl
theorem rbk_0 {v : Int} : rbk 0 v = True := rfl
theorem rbk_1 {v : Int} : rbk 1 v = (v = 0 ∨ v = 1) := rfl
theorem tsw_0 {a v : Int} {f : Nat → Prop} : tsw a v [] f = True := rfl
theorem tsw_s {a v : Int} {t : Nat} {f : Nat → Prop} : tsw a v (t :: ts) f = ((a = v → f t) ∧ tsw a (v + 1) ts f) := rfl
theorem lsw_0 {a : Int} {f : Nat → Prop} : lsw a [] ts f = True := by cases ts <;> rfl
theorem lsw_s {a : Int} {q : Int × Int} {ps : List (Int × Int)} {t : Nat} {f : Nat → Prop} : lsw a (q :: ps) (t :: ts) f = ((a = q.1 → f t) ∧ lsw a ps ts f) := rfl
theorem inR_e {z : Int} : inR z = (-2147483648 ≤ z ∧ z ≤ 2147483647) := rfl
end WPL
