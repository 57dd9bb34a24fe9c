/-! the end -/
theorem la_st : True := trivial
