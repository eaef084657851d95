/-! what hangs on the MOUNTAIN's rows alone -/
def rw5 (h g : fwH) : Prop := g 3 0 = h 3 0 ∧ g 4 0 = h 4 0 ∧ g 5 0 = h 5 0 ∧ g 17 0 = h 17 0 ∧ g 18 0 = h 18 0
theorem scr_rw {h g : fwH} (a : scr h g) : rw5 h g := ⟨a.1 3 0 rfl (by decide), a.1 4 0 rfl (by decide), a.1 5 0 rfl (by decide), a.1 17 0 rfl (by decide), a.1 18 0 rfl (by decide)⟩
section CG
variable {h g : fwH}
theorem cg_Wil (e : rw5 h g) : mWil g 0 = mWil h 0 := by
  obtain ⟨e3, e4, e5, e7, e8⟩ := e
  unfold mWil
  rw [e4, e5, e7, e8]
theorem cg_EnoB (e : rw5 h g) : mEnoB g = mEnoB h := by
  funext x
  have ew := cg_Wil e
  obtain ⟨e3, e4, e5, e7, e8⟩ := e
  unfold mEnoB
  rw [ew, e3, e5, e8]
theorem cg_BesN (e : rw5 h g) (x : Int) (f : Nat) : mBesN g x f = mBesN h x f := by
  have ew := cg_Wil e
  obtain ⟨e3, e4, e5, e7, e8⟩ := e
  unfold mBesN
  rw [ew, e5, e8]
theorem cg_Bes (e : rw5 h g) (x : Int) : ∀ f : Nat, mBes g x f = mBes h x f := by
  intro f
  induction f with
  | zero =>
    have ew := cg_Wil e
    obtain ⟨e3, e4, e5, e7, e8⟩ := e
    rw [mBes, mBes, ew, e5, e8]
  | succ f ih => rw [mBes, mBes, ih, cg_BesN e]
theorem cg_NeedB (e : rw5 h g) : mNeedB g = mNeedB h := by
  funext f
  have ew := cg_Wil e
  obtain ⟨e3, e4, e5, e7, e8⟩ := e
  unfold mNeedB
  rw [ew, e3, e5, e8]
theorem cg_Need (e : rw5 h g) : mNeed g = mNeed h := by
  have ew := cg_Wil e
  have eb := cg_NeedB e
  obtain ⟨e3, e4, e5, e7, e8⟩ := e
  unfold mNeed
  rw [ew, eb, e3, e5, e8]
theorem cg_Lw (e : rw5 h g) : mLw g = mLw h := by
  funext k
  obtain ⟨e3, e4, e5, e7, e8⟩ := e
  unfold mLw
  rw [e4, e7]
theorem cg_Wish (e : rw5 h g) (f : Nat) : ∀ k : Nat, mWish g f k = mWish h f k := by
  intro k
  have el := cg_Lw e
  induction k with
  | zero =>
    obtain ⟨e3, e4, e5, e7, e8⟩ := e
    rw [mWish, mWish, el, e4, e8]
  | succ k ih =>
    rw [mWish, mWish, ih, el]
    obtain ⟨e3, e4, e5, e7, e8⟩ := e
    rw [e4, e8]
theorem cg_NT (e : rw5 h g) : mNT g = mNT h := by
  funext H
  obtain ⟨e3, e4, e5, e7, e8⟩ := e
  unfold mNT
  rw [e4, e5, e8]
theorem cg_GoB (e : rw5 h g) (x : Int) : mGoB g x = mGoB h x := by
  funext j
  have el := cg_Lw e
  have en := cg_NT e
  obtain ⟨e3, e4, e5, e7, e8⟩ := e
  unfold mGoB mCan
  rw [el, en, e4]
theorem cg_Least (e : rw5 h g) : ∀ k : Nat, mLeast g k = mLeast h k := by
  intro k
  induction k with
  | zero => rfl
  | succ k ih => rw [mLeast, mLeast, ih, cg_NT e, cg_Lw e]
theorem cg_Grt (e : rw5 h g) (n : Nat) : mGrt g n = mGrt h n := by
  unfold mGrt
  rw [cg_GoB e, cg_Least e]
theorem cg_DrOk (e : rw5 h g) : mDrOk g = mDrOk h := by
  funext x H
  obtain ⟨e3, e4, e5, e7, e8⟩ := e
  unfold mDrOk mCan mWon
  rw [e3, e4, e5, e8]
theorem cg_DrH (e : rw5 h g) : mDrH g = mDrH h := by
  funext H
  obtain ⟨e3, e4, e5, e7, e8⟩ := e
  unfold mDrH
  rw [e3, e4]
theorem cg_Dr (e : rw5 h g) (x0 : Int) : ∀ m : Nat, mDr g x0 m = mDr h x0 m := by
  intro m
  induction m with
  | zero => rw [mDr, mDr, e.2.2.2.1]
  | succ m ih => rw [mDr, mDr, ih, cg_DrOk e, cg_DrH e]
theorem cg_Drawn (e : rw5 h g) (x0 : Int) (m : Nat) : mDrawn g x0 m = mDrawn h x0 m := by
  unfold mDrawn
  rw [cg_Dr e, e.2.2.1, e.2.2.2.1]
theorem cg_Gn (e : rw5 h g) : mGn g = mGn h := by
  funext c f
  obtain ⟨e3, e4, e5, e7, e8⟩ := e
  unfold mGn
  rw [e4, e7, e8]
theorem cg_Vo (e : rw5 h g) : mVo g = mVo h := by
  funext x y
  have eg : mVoB g x y = mVoB h x y := by
    funext f
    unfold mVoB
    rw [cg_Gn e]
  unfold mVo
  rw [eg, e.2.2.1]
theorem cg_VoN (e : rw5 h g) : mVoN g = mVoN h := by
  funext x y
  unfold mVoN
  rw [cg_Vo e, e.2.2.1, e.2.2.2.2]
theorem cg_UnB (e : rw5 h g) : mUnB g = mUnB h := by
  funext x y
  unfold mUnB
  rw [cg_VoN e, e.2.2.2.1]
theorem cg_ElB (e : rw5 h g) : mElB g = mElB h := by
  funext c
  unfold mElB mUnb
  rw [cg_UnB e, e.2.1, e.2.2.2.1]
theorem cg_El (e : rw5 h g) : mEl g = mEl h := by
  unfold mEl
  rw [cg_ElB e, e.2.1]
theorem cg_Gt (e : rw5 h g) : mGt g = mGt h := by
  funext H
  obtain ⟨e3, e4, e5, e7, e8⟩ := e
  unfold mGt
  rw [e4, e5, e8]
theorem cg_Spo (e : rw5 h g) : ∀ c : Nat, mSpo g c = mSpo h c := by
  intro c
  induction c with
  | zero => rfl
  | succ c ih => rw [mSpo, mSpo, ih, cg_Gt e, e.2.1, e.2.2.2.1]
theorem cg_OH (e : rw5 h g) : mOH g = mOH h := by
  funext k
  obtain ⟨e3, e4, e5, e7, e8⟩ := e
  unfold mOH
  rw [e4, e7]
theorem cg_Dk (e : rw5 h g) (p : Int) (x : Nat) : ∀ k : Nat, mDk g p x k = mDk h p x k := by
  intro k
  induction k with
  | zero => rfl
  | succ k ih => rw [mDk, mDk, ih, cg_OH e, e.2.1]
theorem cg_AskF (e : rw5 h g) (p : Int) (x j : Nat) : mAskF g p x j = mAskF h p x j := by
  unfold mAskF
  rw [cg_Dk e]
theorem cg_Ms (e : rw5 h g) (s : Nat) (e1 : g 33 s = h 33 s) (e2 : g 35 0 = h 35 0) : mMs g s = mMs h s := by
  funext k
  unfold mMs
  rw [cg_OH e, e.2.1, e1, e2]
theorem cg_Pos (e : rw5 h g) (s : Nat) (e1 : g 33 s = h 33 s) (e2 : g 35 0 = h 35 0) : mPos g s = mPos h s := by
  unfold mPos
  rw [cg_Ms e s e1 e2]
theorem cg_Ew (e : rw5 h g) : mEw g = mEw h := by
  funext K
  have ew := cg_Wil e
  obtain ⟨e3, e4, e5, e7, e8⟩ := e
  unfold mEw
  rw [ew, e3, e5, e8]
theorem cg_Play (e : rw5 h g) (n : Nat) (y : Int) : mPlay g n y = mPlay h n y := by
  unfold mPlay
  rw [cg_Ew e, e.2.2.1]
theorem cg_Mov (e : rw5 h g) (n : Nat) (y : Int) : mMov g n y = mMov h n y := by
  have eb : mMovB g n y = mMovB h n y := by
    funext f
    unfold mMovB
    rw [cg_Ew e, e.2.2.1]
  unfold mMov
  rw [eb, e.2.2.1]
end CG
