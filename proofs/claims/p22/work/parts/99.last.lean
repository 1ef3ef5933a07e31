theorem jLastRow22 : True := trivial
