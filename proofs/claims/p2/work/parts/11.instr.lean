/-! the instructions; nx is where the next one stands -/
def ai_const (v : Int32) (nx : Nat) : aI := fun j _ _ L S M => j nx L (.int v :: S) M
def ai_lconst (v : Int64) (nx : Nat) : aI := fun j _ _ L S M => j nx L (.long v :: S) M
def ai_iload (k nx : Nat) : aI := fun j _ _ L S M => match L[k]? with
  | some (some (.int x)) => j nx L (.int x :: S) M
  | _ => False
def ai_aload (k nx : Nat) : aI := fun j _ _ L S M => match L[k]? with
  | some (some (.ref x)) => j nx L (.ref x :: S) M
  | _ => False
def ai_lload (k nx : Nat) : aI := fun j _ _ L S M => match L[k]? with
  | some (some (.long x)) => j nx L (.long x :: S) M
  | _ => False
def ai_istore (k nx : Nat) : aI := fun j _ _ L S M => match S with
  | .int x :: S => am_cut L k = true ∧ j nx (L.set k (some (.int x))) S M
  | _ => False
def ai_astore (k nx : Nat) : aI := fun j _ _ L S M => match S with
  | .ref x :: S => am_cut L k = true ∧ j nx (L.set k (some (.ref x))) S M
  | _ => False
def ai_lstore (k nx : Nat) : aI := fun j _ _ L S M => match S with
  | .long x :: S => am_cut L k = true ∧ j nx ((L.set k (some (.long x))).set (k + 1) none) S M
  | _ => False
def ai_iinc (k : Nat) (v : Int32) (nx : Nat) : aI := fun j _ _ L S M => match L[k]? with
  | some (some (.int x)) => am_cut L k = true ∧ j nx (L.set k (some (.int (x + v)))) S M
  | _ => False
def ai_bin (f : Int32 → Int32 → Int32) (nx : Nat) : aI := fun j _ _ L S M => match S with
  | .int y :: .int x :: S => j nx L (.int (f x y) :: S) M
  | _ => False
def ai_iadd (nx : Nat) : aI := ai_bin (fun x y => x + y) nx
def ai_isub (nx : Nat) : aI := ai_bin (fun x y => x - y) nx
def ai_imul (nx : Nat) : aI := ai_bin (fun x y => x * y) nx
def ai_iand (nx : Nat) : aI := ai_bin (fun x y => x &&& y) nx
def ai_ior (nx : Nat) : aI := ai_bin (fun x y => x ||| y) nx
def ai_idiv (nx : Nat) : aI := fun j _ _ L S M => match S with
  | .int y :: .int x :: S => ¬ y = 0 ∧ j nx L (.int (x / y) :: S) M
  | _ => False
def ai_irem (nx : Nat) : aI := fun j _ _ L S M => match S with
  | .int y :: .int x :: S => ¬ y = 0 ∧ j nx L (.int (x - x / y * y) :: S) M
  | _ => False
def ai_ineg (nx : Nat) : aI := fun j _ _ L S M => match S with
  | .int x :: S => j nx L (.int (-x) :: S) M
  | _ => False
def ai_lbin (f : Int64 → Int64 → Int64) (nx : Nat) : aI := fun j _ _ L S M => match S with
  | .long y :: .long x :: S => j nx L (.long (f x y) :: S) M
  | _ => False
def ai_lor (nx : Nat) : aI := ai_lbin (fun x y => x ||| y) nx
def ai_land (nx : Nat) : aI := ai_lbin (fun x y => x &&& y) nx
def ai_ladd (nx : Nat) : aI := ai_lbin (fun x y => x + y) nx
def ai_lushr (nx : Nat) : aI := fun j _ _ L S M => match S with
  | .int y :: .long x :: S => j nx L (.long ((x.toUInt64 >>> (y.toInt64.toUInt64 &&& Int64.toUInt64 63)).toInt64) :: S) M
  | _ => False
def ai_lshl (nx : Nat) : aI := fun j _ _ L S M => match S with
  | .int y :: .long x :: S => j nx L (.long (x <<< (y.toInt64 &&& 63)) :: S) M
  | _ => False
def ai_lshr (nx : Nat) : aI := fun j _ _ L S M => match S with
  | .int y :: .long x :: S => j nx L (.long (x >>> (y.toInt64 &&& 63)) :: S) M
  | _ => False
def ai_ishl (nx : Nat) : aI := ai_bin (fun x y => x <<< (y &&& 31)) nx
def ai_ishr (nx : Nat) : aI := ai_bin (fun x y => x >>> (y &&& 31)) nx
def ai_i2l (nx : Nat) : aI := fun j _ _ L S M => match S with
  | .int x :: S => j nx L (.long x.toInt64 :: S) M
  | _ => False
def ai_l2i (nx : Nat) : aI := fun j _ _ L S M => match S with
  | .long x :: S => j nx L (.int x.toInt32 :: S) M
  | _ => False
def ai_dup (nx : Nat) : aI := fun j _ _ L S M => match S with
  | v :: S => am_c1 v = true ∧ j nx L (v :: v :: S) M
  | _ => False
def ai_dup2 (nx : Nat) : aI := fun j _ _ L S M => match S with
  | v :: w :: S => am_c1 v = true ∧ am_c1 w = true ∧ j nx L (v :: w :: v :: w :: S) M
  | _ => False
def ai_dup_x1 (nx : Nat) : aI := fun j _ _ L S M => match S with
  | v :: w :: S => am_c1 v = true ∧ am_c1 w = true ∧ j nx L (v :: w :: v :: S) M
  | _ => False
def ai_dup_x2 (nx : Nat) : aI := fun j _ _ L S M => match S with
  | v :: w :: u :: S => am_c1 v = true ∧ am_c1 w = true ∧ am_c1 u = true ∧ j nx L (v :: w :: u :: v :: S) M
  | _ => False
def ai_pop (nx : Nat) : aI := fun j _ _ L S M => match S with
  | v :: S => am_c1 v = true ∧ j nx L S M
  | _ => False
def ai_ifeq (tg nx : Nat) : aI := fun j _ _ L S M => match S with
  | .int x :: S => if x = 0 then j tg L S M else j nx L S M
  | _ => False
def ai_ifne (tg nx : Nat) : aI := fun j _ _ L S M => match S with
  | .int x :: S => if x = 0 then j nx L S M else j tg L S M
  | _ => False
def ai_iflt (tg nx : Nat) : aI := fun j _ _ L S M => match S with
  | .int x :: S => if x < 0 then j tg L S M else j nx L S M
  | _ => False
def ai_ifge (tg nx : Nat) : aI := fun j _ _ L S M => match S with
  | .int x :: S => if 0 ≤ x then j tg L S M else j nx L S M
  | _ => False
def ai_ifgt (tg nx : Nat) : aI := fun j _ _ L S M => match S with
  | .int x :: S => if 0 < x then j tg L S M else j nx L S M
  | _ => False
def ai_ifle (tg nx : Nat) : aI := fun j _ _ L S M => match S with
  | .int x :: S => if x ≤ 0 then j tg L S M else j nx L S M
  | _ => False
def ai_cmpeq (tg nx : Nat) : aI := fun j _ _ L S M => match S with
  | .int y :: .int x :: S => if x = y then j tg L S M else j nx L S M
  | _ => False
def ai_cmpne (tg nx : Nat) : aI := fun j _ _ L S M => match S with
  | .int y :: .int x :: S => if x = y then j nx L S M else j tg L S M
  | _ => False
def ai_cmplt (tg nx : Nat) : aI := fun j _ _ L S M => match S with
  | .int y :: .int x :: S => if x < y then j tg L S M else j nx L S M
  | _ => False
def ai_cmpge (tg nx : Nat) : aI := fun j _ _ L S M => match S with
  | .int y :: .int x :: S => if x < y then j nx L S M else j tg L S M
  | _ => False
def ai_cmpgt (tg nx : Nat) : aI := fun j _ _ L S M => match S with
  | .int y :: .int x :: S => if y < x then j tg L S M else j nx L S M
  | _ => False
def ai_cmple (tg nx : Nat) : aI := fun j _ _ L S M => match S with
  | .int y :: .int x :: S => if y < x then j nx L S M else j tg L S M
  | _ => False
def ai_lcmp (nx : Nat) : aI := fun j _ _ L S M => match S with
  | .long y :: .long x :: S => j nx L (.int (lg_cmp x y) :: S) M
  | _ => False
def ai_goto (tg : Nat) : aI := fun j _ _ L S M => j tg L S M
def am_sw (x : Int32) (d : Nat) (f : Nat → Prop) : List (Int32 × Nat) → Prop
  | [] => f d
  | q :: r => if x = q.1 then f q.2 else am_sw x d f r
def am_tg (x : Int32) (d : Nat) : List (Int32 × Nat) → Nat
  | [] => d
  | q :: r => if x = q.1 then q.2 else am_tg x d r
def ai_switch (cs : List (Int32 × Nat)) (d : Nat) : aI := fun j _ _ L S M => match S with
  | .int x :: S => am_sw x d (fun t => j t L S M) cs
  | _ => False
def am_fd (a ci k : Nat) : Option (Option Value) := match SH[a]? with
  | some (.inr q) => if q.1 = ci then q.2[k]? else none
  | _ => none
def am_ln (a : Nat) : Option Nat := match SH[a]? with
  | some (.inl n) => some n
  | _ => none
def am_kd (a ci : Nat) : Bool := match SH[a]? with
  | some (.inr q) => q.1 == ci
  | _ => false
def ai_getf (ci k nx : Nat) : aI := fun j _ _ L S M => match S with
  | .ref a :: S => match am_fd a ci k with
    | some none => j nx L (.int (M a k) :: S) M
    | some (some v) => j nx L (v :: S) M
    | none => False
  | _ => False
def ai_putf (ci k nx : Nat) : aI := fun j _ _ L S M => match S with
  | .int x :: .ref a :: S => am_fd a ci k = some none ∧ j nx L S (am_up M a k x)
  | _ => False
def ai_iald (nx : Nat) : aI := fun j _ _ L S M => match S with
  | .int i :: .ref a :: S => match am_ln a with
    | some n => vp_in i n ∧ j nx L (.int (M a i.toNatClampNeg) :: S) M
    | none => False
  | _ => False
def ai_iast (nx : Nat) : aI := fun j _ _ L S M => match S with
  | .int x :: .int i :: .ref a :: S => match am_ln a with
    | some n => vp_in i n ∧ j nx L S (am_up M a i.toNatClampNeg x)
    | none => False
  | _ => False
def ai_alen (nx : Nat) : aI := fun j _ _ L S M => match S with
  | .ref a :: S => match am_ln a with
    | some n => j nx L (.int (Int32.ofNat n) :: S) M
    | none => False
  | _ => False
/-- an array outside the world -/
def ai_xald (a n : Nat) (f : Nat → Int32) (nx : Nat) : aI := fun j _ _ L S M => match S with
  | .int i :: .ref b :: S => b = a ∧ vp_in i n ∧ j nx L (.int (f i.toNatClampNeg) :: S) M
  | _ => False
def ai_xlen (a n : Nat) (nx : Nat) : aI := fun j _ _ L S M => match S with
  | .ref b :: S => b = a ∧ j nx L (.int (Int32.ofNat n) :: S) M
  | _ => False
def ai_gets (v : Value) (nx : Nat) : aI := fun j _ _ L S M => j nx L (v :: S) M
def am_few (S : List Value) : Prop := match S with
  | [] => True
  | [_] => True
  | [_, _] => True
  | [_, _, _] => True
  | [_, _, _, _] => True
  | _ => False
def am_push (r : Option Value) (S : List Value) : List Value := match r with
  | none => S
  | some v => v :: S
/-- calls of an object of kind ci, with 0 to 3 values behind it; of a static method -/
def ai_callv1 (ci : Nat) (sp : aS) (nx : Nat) : aI := fun j _ _ L S M => match S with
  | .ref a :: S => am_kd a ci = true ∧ am_few S ∧ sp [.ref a] M (fun r M1 => j nx L (am_push r S) M1)
  | _ => False
def ai_callv2 (ci : Nat) (sp : aS) (nx : Nat) : aI := fun j _ _ L S M => match S with
  | x :: .ref a :: S => am_kd a ci = true ∧ am_few S ∧ sp [.ref a, x] M (fun r M1 => j nx L (am_push r S) M1)
  | _ => False
def ai_callv3 (ci : Nat) (sp : aS) (nx : Nat) : aI := fun j _ _ L S M => match S with
  | y :: x :: .ref a :: S => am_kd a ci = true ∧ am_few S ∧ sp [.ref a, x, y] M (fun r M1 => j nx L (am_push r S) M1)
  | _ => False
def ai_callv4 (ci : Nat) (sp : aS) (nx : Nat) : aI := fun j _ _ L S M => match S with
  | z :: y :: x :: .ref a :: S => am_kd a ci = true ∧ am_few S ∧ sp [.ref a, x, y, z] M (fun r M1 => j nx L (am_push r S) M1)
  | _ => False
def ai_calls1 (sp : aS) (nx : Nat) : aI := fun j _ _ L S M => match S with
  | x :: S => am_few S ∧ sp [x] M (fun r M1 => j nx L (am_push r S) M1)
  | _ => False
def ai_calls2 (sp : aS) (nx : Nat) : aI := fun j _ _ L S M => match S with
  | y :: x :: S => am_few S ∧ sp [x, y] M (fun r M1 => j nx L (am_push r S) M1)
  | _ => False
def ai_min (nx : Nat) : aI := fun j _ _ L S M => match S with
  | .int y :: .int x :: S => am_few S ∧ j nx L (.int (if y < x then y else x) :: S) M
  | _ => False
def ai_iret : aI := fun _ K _ _ S M => match S with
  | [.int x] => K (some (.int x)) M
  | _ => False
def ai_zret : aI := fun _ K _ _ S M => match S with
  | [.int x] => (x = 0 ∨ x = 1) ∧ K (some (.int x)) M
  | _ => False
def ai_lret : aI := fun _ K _ _ S M => match S with
  | [.long x] => K (some (.long x)) M
  | _ => False
def ai_vret : aI := fun _ K _ _ S M => match S with
  | [] => K none M
  | _ => False
def ai_bad : aI := fun _ _ _ _ _ _ => False
