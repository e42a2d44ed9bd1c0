/-! what is only asked: door, lesson, exam -/
section LOOK
variable {w w' : Int → Int}
end LOOK
